/-! SEARCHES: what they may change; class and model stay in step behind one -/
def lxs (c k : Nat) : Prop := (c = 96 ∧ 5 ≤ k ∧ k ≤ 8) ∨ c = 103
/-- the latest search, for a sky K -/
def LK (K : Sk) (I : Nat → Nat → Int32) : Prop := I 96 8 = I 16 8 → LQ K (I 96 5) (I 96 6).toInt (I 96 7).toInt (I 103)
theorem Rl_96 {n : Nat} {I I' : Nat → Nat → Int32} {J J' : Nat → Nat → Int64} (h : Rl_ n I J) (e : ∀ c k, ¬ lxs c k → I' c k = I c k) (hv : (I' 96 8).toInt ≤ (I' 16 8).toInt) (hL : LK (kI I) I') : Rl_ n I' J' := by
  have e : ∀ c k, ¬ ((c = 96 ∧ 5 ≤ k ∧ k ≤ 8) ∨ c = 103) → I' c k = I c k := e
  have eb : ∀ c k, c ≠ 96 → c ≠ 103 → I' c k = I c k := fun c k z1 z2 => e c k (by omega)
  obtain ⟨g1, g2, g3, g4, g5, g6, g7, g8, g9, g10, g11, g12, g13, g14⟩ := h
  have ec : cn I' = cn I := by unfold cn; rw [eb _ _ (by omega) (by omega)]
  have c10 := g7.1.2
  have ecr : ∀ b, b < cn I → cr I' b = cr I b := fun b hb => cr_congr (fun k => by
    have hbd := bd_eq (b := b) (by omega)
    exact eb _ _ (by omega) (by omega))
  have s16 : ∀ k, I' 16 k = I 16 k := fun k => eb _ _ (by omega) (by omega)
  have s148 : ∀ k, I' 148 k = I 148 k := fun k => eb _ _ (by omega) (by omega)
  have s18 : ∀ k, I' 18 k = I 18 k := fun k => eb _ _ (by omega) (by omega)
  refine ⟨T_congr (eb _ _ (by omega) (by omega)) (fun k => eb _ _ (by omega) (by omega)) (eb _ _ (by omega) (by omega)) (fun k => eb _ _ (by omega) (by omega)) g1, F_congr (eb _ _ (by omega) (by omega)) (eb _ _ (by omega) (by omega)) (eb _ _ (by omega) (by omega)) (eb _ _ (by omega) (by omega)) g2, R_congr (fun k => eb _ _ (by omega) (by omega)) (fun k => eb _ _ (by omega) (by omega)) g3, D_congr (eb _ _ (by omega) (by omega)) (eb _ _ (by omega) (by omega)) g4, M_congr (eb _ _ (by omega) (by omega)) (fun k => eb _ _ (by omega) (by omega)) (eb _ _ (by omega) (by omega)) (fun k => eb _ _ (by omega) (by omega)) g5, ?_, ?_, ?_, ?_, ?_, ?_, ?_, ?_, ?_⟩
  · intro k hk
    rw [eb 147 k (by omega) (by omega)]
    exact g6 k hk
  · exact CW_congr (fun k _ => s16 k) (fun c h1 h2 k => eb _ _ (by omega) (by omega)) g7
  · exact MW_congr (eb _ _ (by omega) (by omega)) (fun k => eb _ _ (by omega) (by omega)) (fun k => eb _ _ (by omega) (by omega)) s148 (fun k => eb _ _ (by omega) (by omega)) g8
  · unfold rl_S at g9 ⊢
    rw [ec]
    simp only [s16, s148, s18, eb 139 0 (by omega) (by omega), eb 139 1 (by omega) (by omega), eb 139 2 (by omega) (by omega), eb 106 6 (by omega) (by omega), eb 128 1 (by omega) (by omega)]
    refine ⟨g9.1, g9.2.1, g9.2.2.1, g9.2.2.2.1, g9.2.2.2.2.1, g9.2.2.2.2.2.1, g9.2.2.2.2.2.2.1, g9.2.2.2.2.2.2.2.1, g9.2.2.2.2.2.2.2.2.1, fun b hb' => ?_⟩
    rw [mr_congr (I := I) s148 (fun k => eb _ _ (by omega) (by omega)) (fun k => eb _ _ (by omega) (by omega)), ecr b hb']
    exact g9.2.2.2.2.2.2.2.2.2 b hb'
  · intro b hb'
    rw [ec] at hb'
    have hbd := bd_eq (b := b) (by omega)
    rw [eb (am_bd b) 0 (by omega) (by omega)]
    refine ⟨(g10 b hb').1, fun i hi => ?_⟩
    rw [eb 142 _ (by omega) (by omega)]
    exact (g10 b hb').2 i hi
  · have eu : un I' = un I := by unfold un; rw [eb _ _ (by omega) (by omega)]
    have eo : uo I' = uo I := by unfold uo; rw [eb _ _ (by omega) (by omega)]
    have f140 : I' 140 = I 140 := funext fun k => eb _ _ (by omega) (by omega)
    have f141 : I' 141 = I 141 := funext fun k => eb _ _ (by omega) (by omega)
    have f149 : I' 149 = I 149 := funext fun k => eb _ _ (by omega) (by omega)
    unfold rl_U at g11 ⊢
    rw [eu, eo, ec, f140, f141, f149, eb 139 24 (by omega) (by omega), eb 106 6 (by omega) (by omega), eb 106 5 (by omega) (by omega)]
    refine ⟨g11.1, g11.2.1, g11.2.2.1, fun v hv' => ?_⟩
    have er : I' (108 + (uo I + v) % 20) = I (108 + (uo I + v) % 20) := funext fun k => eb _ _ (by omega) (by omega)
    rw [er]
    exact g11.2.2.2 v hv'
  · unfold rl_E at g12 ⊢
    rw [eb 139 36 (by omega) (by omega), eb 139 37 (by omega) (by omega), eb 128 0 (by omega) (by omega), eb 128 1 (by omega) (by omega), s16]
    refine ⟨g12.1, g12.2.1, g12.2.2.1, fun k hk => ?_⟩
    rw [eb 158 k (by omega) (by omega), eb 159 k (by omega) (by omega), eb 129 k (by omega) (by omega), eb 130 k (by omega) (by omega)]
    exact g12.2.2.2 k hk
  · unfold rl_C at g13 ⊢
    rw [ec, s16]
    refine ⟨fun a b hab hb' => ?_, fun a b hab hb' => ?_, fun k hk => ?_⟩
    · rw [ecr a (by omega), ecr b hb', eb 84 _ (by omega) (by omega), eb 85 _ (by omega) (by omega)]
      exact g13.1 a b hab hb'
    · rw [ecr a (by omega), ecr b hb', eb 80 _ (by omega) (by omega)]
      exact g13.2.1 a b hab hb'
    · rw [eb 104 k (by omega) (by omega)]
      exact g13.2.2 k hk
  · have eK : kI I' = kI I := by
      unfold kI
      rw [ec, s16, s16, s16]
      congr 2
      funext b
      split
      · rename_i hb'
        exact ecr b hb'
      · rfl
    refine ⟨⟨by rw [s16]; exact g14.1.1, by rw [s16]; exact g14.1.2⟩, hv, ?_⟩
    unfold rl_L
    rw [eK]
    exact hL
/-- an op that searches -/
theorem op_srch {X : am_X} {mc mm : Nat} {vs : List Value} (hc : ∀ (K : Sk) (I : Nat → Nat → Int32) (J : Nat → Nat → Int64), CS K I → rl_C I → LK K I → (I 96 8).toInt ≤ (I 16 8).toInt → ∃ (v : Int32) (I1 : Nat → Nat → Int32) (J1 : Nat → Nat → Int64), am_do X mc (.ref 0 :: vs) (am_sh I J) = some (some (.int v), am_sh I1 J1) ∧ (∀ c k, W_q c k = false → ¬ lxs c k → I1 c k = I c k) ∧ rl_C I1 ∧ (I1 96 8).toInt ≤ (I1 16 8).toInt ∧ LK K I1 ∧ ∀ (I' : Nat → Nat → Int32) (J' : Nat → Nat → Int64), MS K I' → ∃ (I2 : Nat → Nat → Int32) (J2 : Nat → Nat → Int64), am_do X mm (.ref 139 :: vs) (am_sh I' J') = some (some (.int v), am_sh I2 J2) ∧ Fr W_n I' I2 ∧ MS K I2) : am_Same X Rl_ mc mm vs := by
  intro n I J hn h
  have hK := Rl_K h
  obtain ⟨v, I1, J1, e1, f1, c1, v1, l1, hm⟩ := hc (kI I) I J hK.1 (R_C h) (R_V h).2.2 (R_V h).2.1
  have q138 : ∀ c k, 138 ≤ c → I1 c k = I c k := fun c k z => f1 c k (Wq_b (Wq_138 z)) (by unfold lxs; omega)
  have m1 : MS (kI I) I1 := MS_cg hK.2 (fun c k z => q138 c k (by omega))
  obtain ⟨I2, J2, e2, f2, m2⟩ := hm I1 J1 m1
  refine ⟨v, I1, J1, I2, J2, e1, e2, ?_⟩
  have lo : ∀ c k, c ≤ 138 → I2 c k = I1 c k := fun c k z => f2 c k (Wn_b (Wn_138 z))
  have dc : ∀ c k, lxs c k ∨ ¬ lxs c k := fun c k => by unfold lxs; omega
  -- without the search
  obtain ⟨I1', hI1'⟩ : ∃ I1' : Nat → Nat → Int32, I1' = fun c k => if bl (lxs c k) = true then I c k else I1 c k := ⟨_, rfl⟩
  obtain ⟨I2', hI2'⟩ : ∃ I2' : Nat → Nat → Int32, I2' = fun c k => if bl (lxs c k) = true then I c k else I2 c k := ⟨_, rfl⟩
  have a1 : ∀ c k, lxs c k → I1' c k = I c k := fun c k z => by rw [hI1']; show (if bl (lxs c k) = true then _ else _) = _; rw [if_pos (bl_t z)]
  have a2 : ∀ c k, ¬ lxs c k → I1' c k = I1 c k := fun c k z => by rw [hI1']; show (if bl (lxs c k) = true then _ else _) = _; rw [bl_f z]; rfl
  have b1 : ∀ c k, lxs c k → I2' c k = I c k := fun c k z => by rw [hI2']; show (if bl (lxs c k) = true then _ else _) = _; rw [if_pos (bl_t z)]
  have b2 : ∀ c k, ¬ lxs c k → I2' c k = I2 c k := fun c k z => by rw [hI2']; show (if bl (lxs c k) = true then _ else _) = _; rw [bl_f z]; rfl
  have F1 : Fr W_q I I1' := fun c k q => by
    rcases dc c k with z | z
    · exact a1 c k z
    · rw [a2 c k z]; exact f1 c k q z
  have hc1 : CS (kI I) I1 := by
    refine CS_cg hK.1 (fun c k z => ?_)
    refine f1 c k (Wq_b (Wq_16 (by omega) (by omega))) (by unfold lxs; omega)
  have hc1' : CS (kI I) I1' := CS_fr hK.1 F1
  have C1 : rl_C I1' := C_cg hc1 c1 hc1' (fun c k z => a2 c k (by unfold lxs; omega))
  have F2 : Fr W_n I1' I2' := fun c k q => by
    rcases dc c k with z | z
    · rw [a1 c k z, b1 c k z]
    · rw [a2 c k z, b2 c k z]; exact f2 c k q
  have M2 : MS (kI I) I2' := MS_cg m2 (fun c k z => b2 c k (by unfold lxs; omega))
  have R := Rl_q (J2 := J2) h F1 C1 F2 M2
  have eK : kI I2' = kI I := by
    have ec : ∀ c k, 16 ≤ c → c ≤ 79 → I2' c k = I c k := fun c k z1 z2 => by
      rw [b2 c k (by unfold lxs; omega), lo c k (by omega)]
      exact f1 c k (Wq_b (Wq_16 z1 z2)) (by unfold lxs; omega)
    have en : cn I2' = cn I := by unfold cn; rw [ec 16 2 (by omega) (by omega)]
    have c10 := (R_n h).2.1
    unfold kI
    rw [en, ec 16 3 (by omega) (by omega), ec 16 4 (by omega) (by omega), ec 16 5 (by omega) (by omega)]
    congr 2
    funext b
    split
    · rename_i hb'
      have hbd := bd_eq (b := b) (by omega)
      exact cr_congr (fun k => ec _ _ (by omega) (by omega))
    · rfl
  refine Rl_96 R (fun c k z => (b2 c k z).symm) ?_ ?_
  · rw [lo _ _ (by omega), lo _ _ (by omega)]; exact v1
  · rw [eK]
    unfold LK at l1 ⊢
    have e103 : I2 103 = I1 103 := funext fun k => lo _ _ (by omega)
    rw [lo 96 8 (by omega), lo 16 8 (by omega), lo 96 5 (by omega), lo 96 6 (by omega), lo 96 7 (by omega), e103]
    exact l1
