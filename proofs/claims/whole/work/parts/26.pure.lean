/-! PURE ROWS: changed cells, calls -/
theorem up_at {α : Type} (f : Nat → Nat → α) (c k : Nat) (v : α) : am_up f c k v c k = v := by simp [am_up]
theorem up_c {α : Type} {f : Nat → Nat → α} {c k a : Nat} {v : α} (h : a ≠ c) : am_up f c k v a = f a := am_up_ne h
theorem up_k {α : Type} {f : Nat → Nat → α} {c k b : Nat} {v : α} (h : b ≠ k) : am_up f c k v c b = f c b := by simp [am_up, h]
theorem up_ck {α : Type} {f : Nat → Nat → α} {c k a b : Nat} {v : α} (h : a ≠ c ∨ b ≠ k) : am_up f c k v a b = f a b := by
  unfold am_up
  split
  · split
    · rename_i h1 h2
      rcases h with h | h
      · exact absurd h1 h
      · exact absurd h2 h
    · rfl
  · rfl
section BND
variable {X : am_X} {P : List (Nat × am_I)} {j : Nat} {ls st : List Value} {S : am_S} {v : Value}
theorem bnd_s : (some (some v, S)).bind (fun q : Option Value × am_S => am_ev X P j ls (q.1.toList ++ st) q.2) = am_ev X P j ls (v :: st) S := rfl
theorem bnd_n : (some ((none : Option Value), S)).bind (fun q : Option Value × am_S => am_ev X P j ls (q.1.toList ++ st) q.2) = am_ev X P j ls st S := rfl
end BND
section C0
variable (X : am_X) (I : Nat → Nat → Int32) (J : Nat → Nat → Int64)
/-- refuse(k) of the class, refuses(k), isRefused(k) of the model -/
theorem c_208 {k : Nat} (h : k < 6) : am_do X 208 [.ref 0, .int (nI k)] (am_sh I J) = some (some (.int (-1)), am_sh (am_up I 138 k (I 138 k + 1)) J) := by
  have e1 : ¬ nI k < 0 := nI_pos (by omega)
  have e2 : ¬ (Int32.ofNat 6 : Int32) ≤ nI k := by
    show ¬ nI 6 ≤ nI k
    rw [nI_leI (by omega) (by omega)]
    omega
  have e3 : (nI k).toNatClampNeg = k := nI_clamp (by omega)
  rw [cl_208, sg_208_e0, if_neg e1, if_neg e2, e3, if_neg (by intro z; rcases z with z | z; exact e1 z; omega), if_neg (by intro z; rcases z with z | z; exact e1 z; omega)]
theorem c_218 {k : Nat} (h : k < 6) : am_do X 218 [.ref 139, .int (nI k)] (am_sh I J) = some (some (.int (-1)), am_sh (am_up I 146 k (I 146 k + 1)) J) := by
  have e1 : ¬ nI k < 0 := nI_pos (by omega)
  have e3 : (nI k).toNatClampNeg = k := nI_clamp (by omega)
  rw [cl_218, sg_218_e0, e3, if_neg (by intro z; rcases z with z | z; exact e1 z; omega), if_neg (by intro z; rcases z with z | z; exact e1 z; omega)]
theorem c_219 {k : Nat} (h : k < 6) : am_do X 219 [.ref 139, .int (nI k)] (am_sh I J) = some (some (.int 0), am_sh (am_up I 146 k (I 146 k + 1)) J) := by
  have e1 : ¬ nI k < 0 := nI_pos (by omega)
  have e3 : (nI k).toNatClampNeg = k := nI_clamp (by omega)
  rw [cl_219, sg_219_e0, e3, if_neg (by intro z; rcases z with z | z; exact e1 z; omega), if_neg (by intro z; rcases z with z | z; exact e1 z; omega)]
theorem c_214 (x l h : Int32) : am_do X 214 [.int x, .int l, .int h] (am_sh I J) = some (some (.int (if l ≤ x ∧ x ≤ h then 1 else 0)), am_sh I J) := by
  rw [cl_214, sg_214_e0]
  by_cases h1 : x < l
  · rw [if_pos h1, if_neg (fun z => Int32.not_le.mpr h1 z.1)]
  · rw [if_neg h1]
    by_cases h2 : h < x
    · rw [if_pos h2, if_neg (fun z => Int32.not_le.mpr h2 z.2)]
    · rw [if_neg h2, if_pos ⟨Int32.not_lt.mp h1, Int32.not_lt.mp h2⟩]
end C0
