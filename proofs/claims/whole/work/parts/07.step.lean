/-! counts only grow -/
theorem am_m_iconst {X : am_X} {q : am_I} {i j : Nat} {ls st ls' st' : List Value} {S S' : am_S} (h : am_x_iconst X q i ls st S = some (.inl (j, ls', st', S'))) : S.1.1 ≤ S'.1.1 ∧ S.1.2 ≤ S'.1.2 := by
  unfold am_x_iconst am_go at h
  repeat' split at h
  all_goals (cases h <;> first
    | exact ⟨Nat.le_refl _, Nat.le_refl _⟩
    | exact ⟨Nat.le_add_right _ _, Nat.le_add_right _ _⟩
    | exact ⟨Nat.le_trans (Nat.le_add_right _ _) (Nat.le_add_right _ _), Nat.le_trans (Nat.le_add_right _ _) (Nat.le_add_right _ _)⟩)
theorem am_m_bipush {X : am_X} {q : am_I} {i j : Nat} {ls st ls' st' : List Value} {S S' : am_S} (h : am_x_bipush X q i ls st S = some (.inl (j, ls', st', S'))) : S.1.1 ≤ S'.1.1 ∧ S.1.2 ≤ S'.1.2 := by
  unfold am_x_bipush am_go at h
  repeat' split at h
  all_goals (cases h <;> first
    | exact ⟨Nat.le_refl _, Nat.le_refl _⟩
    | exact ⟨Nat.le_add_right _ _, Nat.le_add_right _ _⟩
    | exact ⟨Nat.le_trans (Nat.le_add_right _ _) (Nat.le_add_right _ _), Nat.le_trans (Nat.le_add_right _ _) (Nat.le_add_right _ _)⟩)
theorem am_m_sipush {X : am_X} {q : am_I} {i j : Nat} {ls st ls' st' : List Value} {S S' : am_S} (h : am_x_sipush X q i ls st S = some (.inl (j, ls', st', S'))) : S.1.1 ≤ S'.1.1 ∧ S.1.2 ≤ S'.1.2 := by
  unfold am_x_sipush am_go at h
  repeat' split at h
  all_goals (cases h <;> first
    | exact ⟨Nat.le_refl _, Nat.le_refl _⟩
    | exact ⟨Nat.le_add_right _ _, Nat.le_add_right _ _⟩
    | exact ⟨Nat.le_trans (Nat.le_add_right _ _) (Nat.le_add_right _ _), Nat.le_trans (Nat.le_add_right _ _) (Nat.le_add_right _ _)⟩)
theorem am_m_ldc {X : am_X} {q : am_I} {i j : Nat} {ls st ls' st' : List Value} {S S' : am_S} (h : am_x_ldc X q i ls st S = some (.inl (j, ls', st', S'))) : S.1.1 ≤ S'.1.1 ∧ S.1.2 ≤ S'.1.2 := by
  unfold am_x_ldc am_go at h
  repeat' split at h
  all_goals (cases h <;> first
    | exact ⟨Nat.le_refl _, Nat.le_refl _⟩
    | exact ⟨Nat.le_add_right _ _, Nat.le_add_right _ _⟩
    | exact ⟨Nat.le_trans (Nat.le_add_right _ _) (Nat.le_add_right _ _), Nat.le_trans (Nat.le_add_right _ _) (Nat.le_add_right _ _)⟩)
theorem am_m_ldcw {X : am_X} {q : am_I} {i j : Nat} {ls st ls' st' : List Value} {S S' : am_S} (h : am_x_ldcw X q i ls st S = some (.inl (j, ls', st', S'))) : S.1.1 ≤ S'.1.1 ∧ S.1.2 ≤ S'.1.2 := by
  unfold am_x_ldcw am_go at h
  repeat' split at h
  all_goals (cases h <;> first
    | exact ⟨Nat.le_refl _, Nat.le_refl _⟩
    | exact ⟨Nat.le_add_right _ _, Nat.le_add_right _ _⟩
    | exact ⟨Nat.le_trans (Nat.le_add_right _ _) (Nat.le_add_right _ _), Nat.le_trans (Nat.le_add_right _ _) (Nat.le_add_right _ _)⟩)
theorem am_m_iload {X : am_X} {q : am_I} {i j : Nat} {ls st ls' st' : List Value} {S S' : am_S} (h : am_x_iload X q i ls st S = some (.inl (j, ls', st', S'))) : S.1.1 ≤ S'.1.1 ∧ S.1.2 ≤ S'.1.2 := by
  unfold am_x_iload am_go at h
  repeat' split at h
  all_goals (cases h <;> first
    | exact ⟨Nat.le_refl _, Nat.le_refl _⟩
    | exact ⟨Nat.le_add_right _ _, Nat.le_add_right _ _⟩
    | exact ⟨Nat.le_trans (Nat.le_add_right _ _) (Nat.le_add_right _ _), Nat.le_trans (Nat.le_add_right _ _) (Nat.le_add_right _ _)⟩)
theorem am_m_aload {X : am_X} {q : am_I} {i j : Nat} {ls st ls' st' : List Value} {S S' : am_S} (h : am_x_aload X q i ls st S = some (.inl (j, ls', st', S'))) : S.1.1 ≤ S'.1.1 ∧ S.1.2 ≤ S'.1.2 := by
  unfold am_x_aload am_go at h
  repeat' split at h
  all_goals (cases h <;> first
    | exact ⟨Nat.le_refl _, Nat.le_refl _⟩
    | exact ⟨Nat.le_add_right _ _, Nat.le_add_right _ _⟩
    | exact ⟨Nat.le_trans (Nat.le_add_right _ _) (Nat.le_add_right _ _), Nat.le_trans (Nat.le_add_right _ _) (Nat.le_add_right _ _)⟩)
theorem am_m_lload {X : am_X} {q : am_I} {i j : Nat} {ls st ls' st' : List Value} {S S' : am_S} (h : am_x_lload X q i ls st S = some (.inl (j, ls', st', S'))) : S.1.1 ≤ S'.1.1 ∧ S.1.2 ≤ S'.1.2 := by
  unfold am_x_lload am_go at h
  repeat' split at h
  all_goals (cases h <;> first
    | exact ⟨Nat.le_refl _, Nat.le_refl _⟩
    | exact ⟨Nat.le_add_right _ _, Nat.le_add_right _ _⟩
    | exact ⟨Nat.le_trans (Nat.le_add_right _ _) (Nat.le_add_right _ _), Nat.le_trans (Nat.le_add_right _ _) (Nat.le_add_right _ _)⟩)
theorem am_m_istore {X : am_X} {q : am_I} {i j : Nat} {ls st ls' st' : List Value} {S S' : am_S} (h : am_x_istore X q i ls st S = some (.inl (j, ls', st', S'))) : S.1.1 ≤ S'.1.1 ∧ S.1.2 ≤ S'.1.2 := by
  unfold am_x_istore am_go at h
  repeat' split at h
  all_goals (cases h <;> first
    | exact ⟨Nat.le_refl _, Nat.le_refl _⟩
    | exact ⟨Nat.le_add_right _ _, Nat.le_add_right _ _⟩
    | exact ⟨Nat.le_trans (Nat.le_add_right _ _) (Nat.le_add_right _ _), Nat.le_trans (Nat.le_add_right _ _) (Nat.le_add_right _ _)⟩)
theorem am_m_astore {X : am_X} {q : am_I} {i j : Nat} {ls st ls' st' : List Value} {S S' : am_S} (h : am_x_astore X q i ls st S = some (.inl (j, ls', st', S'))) : S.1.1 ≤ S'.1.1 ∧ S.1.2 ≤ S'.1.2 := by
  unfold am_x_astore am_go at h
  repeat' split at h
  all_goals (cases h <;> first
    | exact ⟨Nat.le_refl _, Nat.le_refl _⟩
    | exact ⟨Nat.le_add_right _ _, Nat.le_add_right _ _⟩
    | exact ⟨Nat.le_trans (Nat.le_add_right _ _) (Nat.le_add_right _ _), Nat.le_trans (Nat.le_add_right _ _) (Nat.le_add_right _ _)⟩)
theorem am_m_lstore {X : am_X} {q : am_I} {i j : Nat} {ls st ls' st' : List Value} {S S' : am_S} (h : am_x_lstore X q i ls st S = some (.inl (j, ls', st', S'))) : S.1.1 ≤ S'.1.1 ∧ S.1.2 ≤ S'.1.2 := by
  unfold am_x_lstore am_go at h
  repeat' split at h
  all_goals (cases h <;> first
    | exact ⟨Nat.le_refl _, Nat.le_refl _⟩
    | exact ⟨Nat.le_add_right _ _, Nat.le_add_right _ _⟩
    | exact ⟨Nat.le_trans (Nat.le_add_right _ _) (Nat.le_add_right _ _), Nat.le_trans (Nat.le_add_right _ _) (Nat.le_add_right _ _)⟩)
theorem am_m_iinc {X : am_X} {q : am_I} {i j : Nat} {ls st ls' st' : List Value} {S S' : am_S} (h : am_x_iinc X q i ls st S = some (.inl (j, ls', st', S'))) : S.1.1 ≤ S'.1.1 ∧ S.1.2 ≤ S'.1.2 := by
  unfold am_x_iinc am_go at h
  repeat' split at h
  all_goals (cases h <;> first
    | exact ⟨Nat.le_refl _, Nat.le_refl _⟩
    | exact ⟨Nat.le_add_right _ _, Nat.le_add_right _ _⟩
    | exact ⟨Nat.le_trans (Nat.le_add_right _ _) (Nat.le_add_right _ _), Nat.le_trans (Nat.le_add_right _ _) (Nat.le_add_right _ _)⟩)
theorem am_m_iadd {X : am_X} {q : am_I} {i j : Nat} {ls st ls' st' : List Value} {S S' : am_S} (h : am_x_iadd X q i ls st S = some (.inl (j, ls', st', S'))) : S.1.1 ≤ S'.1.1 ∧ S.1.2 ≤ S'.1.2 := by
  unfold am_x_iadd am_go at h
  repeat' split at h
  all_goals (cases h <;> first
    | exact ⟨Nat.le_refl _, Nat.le_refl _⟩
    | exact ⟨Nat.le_add_right _ _, Nat.le_add_right _ _⟩
    | exact ⟨Nat.le_trans (Nat.le_add_right _ _) (Nat.le_add_right _ _), Nat.le_trans (Nat.le_add_right _ _) (Nat.le_add_right _ _)⟩)
theorem am_m_isub {X : am_X} {q : am_I} {i j : Nat} {ls st ls' st' : List Value} {S S' : am_S} (h : am_x_isub X q i ls st S = some (.inl (j, ls', st', S'))) : S.1.1 ≤ S'.1.1 ∧ S.1.2 ≤ S'.1.2 := by
  unfold am_x_isub am_go at h
  repeat' split at h
  all_goals (cases h <;> first
    | exact ⟨Nat.le_refl _, Nat.le_refl _⟩
    | exact ⟨Nat.le_add_right _ _, Nat.le_add_right _ _⟩
    | exact ⟨Nat.le_trans (Nat.le_add_right _ _) (Nat.le_add_right _ _), Nat.le_trans (Nat.le_add_right _ _) (Nat.le_add_right _ _)⟩)
theorem am_m_imul {X : am_X} {q : am_I} {i j : Nat} {ls st ls' st' : List Value} {S S' : am_S} (h : am_x_imul X q i ls st S = some (.inl (j, ls', st', S'))) : S.1.1 ≤ S'.1.1 ∧ S.1.2 ≤ S'.1.2 := by
  unfold am_x_imul am_go at h
  repeat' split at h
  all_goals (cases h <;> first
    | exact ⟨Nat.le_refl _, Nat.le_refl _⟩
    | exact ⟨Nat.le_add_right _ _, Nat.le_add_right _ _⟩
    | exact ⟨Nat.le_trans (Nat.le_add_right _ _) (Nat.le_add_right _ _), Nat.le_trans (Nat.le_add_right _ _) (Nat.le_add_right _ _)⟩)
theorem am_m_iand {X : am_X} {q : am_I} {i j : Nat} {ls st ls' st' : List Value} {S S' : am_S} (h : am_x_iand X q i ls st S = some (.inl (j, ls', st', S'))) : S.1.1 ≤ S'.1.1 ∧ S.1.2 ≤ S'.1.2 := by
  unfold am_x_iand am_go at h
  repeat' split at h
  all_goals (cases h <;> first
    | exact ⟨Nat.le_refl _, Nat.le_refl _⟩
    | exact ⟨Nat.le_add_right _ _, Nat.le_add_right _ _⟩
    | exact ⟨Nat.le_trans (Nat.le_add_right _ _) (Nat.le_add_right _ _), Nat.le_trans (Nat.le_add_right _ _) (Nat.le_add_right _ _)⟩)
theorem am_m_ior {X : am_X} {q : am_I} {i j : Nat} {ls st ls' st' : List Value} {S S' : am_S} (h : am_x_ior X q i ls st S = some (.inl (j, ls', st', S'))) : S.1.1 ≤ S'.1.1 ∧ S.1.2 ≤ S'.1.2 := by
  unfold am_x_ior am_go at h
  repeat' split at h
  all_goals (cases h <;> first
    | exact ⟨Nat.le_refl _, Nat.le_refl _⟩
    | exact ⟨Nat.le_add_right _ _, Nat.le_add_right _ _⟩
    | exact ⟨Nat.le_trans (Nat.le_add_right _ _) (Nat.le_add_right _ _), Nat.le_trans (Nat.le_add_right _ _) (Nat.le_add_right _ _)⟩)
theorem am_m_ixor {X : am_X} {q : am_I} {i j : Nat} {ls st ls' st' : List Value} {S S' : am_S} (h : am_x_ixor X q i ls st S = some (.inl (j, ls', st', S'))) : S.1.1 ≤ S'.1.1 ∧ S.1.2 ≤ S'.1.2 := by
  unfold am_x_ixor am_go at h
  repeat' split at h
  all_goals (cases h <;> first
    | exact ⟨Nat.le_refl _, Nat.le_refl _⟩
    | exact ⟨Nat.le_add_right _ _, Nat.le_add_right _ _⟩
    | exact ⟨Nat.le_trans (Nat.le_add_right _ _) (Nat.le_add_right _ _), Nat.le_trans (Nat.le_add_right _ _) (Nat.le_add_right _ _)⟩)
theorem am_m_ishl {X : am_X} {q : am_I} {i j : Nat} {ls st ls' st' : List Value} {S S' : am_S} (h : am_x_ishl X q i ls st S = some (.inl (j, ls', st', S'))) : S.1.1 ≤ S'.1.1 ∧ S.1.2 ≤ S'.1.2 := by
  unfold am_x_ishl am_go at h
  repeat' split at h
  all_goals (cases h <;> first
    | exact ⟨Nat.le_refl _, Nat.le_refl _⟩
    | exact ⟨Nat.le_add_right _ _, Nat.le_add_right _ _⟩
    | exact ⟨Nat.le_trans (Nat.le_add_right _ _) (Nat.le_add_right _ _), Nat.le_trans (Nat.le_add_right _ _) (Nat.le_add_right _ _)⟩)
theorem am_m_ishr {X : am_X} {q : am_I} {i j : Nat} {ls st ls' st' : List Value} {S S' : am_S} (h : am_x_ishr X q i ls st S = some (.inl (j, ls', st', S'))) : S.1.1 ≤ S'.1.1 ∧ S.1.2 ≤ S'.1.2 := by
  unfold am_x_ishr am_go at h
  repeat' split at h
  all_goals (cases h <;> first
    | exact ⟨Nat.le_refl _, Nat.le_refl _⟩
    | exact ⟨Nat.le_add_right _ _, Nat.le_add_right _ _⟩
    | exact ⟨Nat.le_trans (Nat.le_add_right _ _) (Nat.le_add_right _ _), Nat.le_trans (Nat.le_add_right _ _) (Nat.le_add_right _ _)⟩)
theorem am_m_iushr {X : am_X} {q : am_I} {i j : Nat} {ls st ls' st' : List Value} {S S' : am_S} (h : am_x_iushr X q i ls st S = some (.inl (j, ls', st', S'))) : S.1.1 ≤ S'.1.1 ∧ S.1.2 ≤ S'.1.2 := by
  unfold am_x_iushr am_go at h
  repeat' split at h
  all_goals (cases h <;> first
    | exact ⟨Nat.le_refl _, Nat.le_refl _⟩
    | exact ⟨Nat.le_add_right _ _, Nat.le_add_right _ _⟩
    | exact ⟨Nat.le_trans (Nat.le_add_right _ _) (Nat.le_add_right _ _), Nat.le_trans (Nat.le_add_right _ _) (Nat.le_add_right _ _)⟩)
theorem am_m_ineg {X : am_X} {q : am_I} {i j : Nat} {ls st ls' st' : List Value} {S S' : am_S} (h : am_x_ineg X q i ls st S = some (.inl (j, ls', st', S'))) : S.1.1 ≤ S'.1.1 ∧ S.1.2 ≤ S'.1.2 := by
  unfold am_x_ineg am_go at h
  repeat' split at h
  all_goals (cases h <;> first
    | exact ⟨Nat.le_refl _, Nat.le_refl _⟩
    | exact ⟨Nat.le_add_right _ _, Nat.le_add_right _ _⟩
    | exact ⟨Nat.le_trans (Nat.le_add_right _ _) (Nat.le_add_right _ _), Nat.le_trans (Nat.le_add_right _ _) (Nat.le_add_right _ _)⟩)
theorem am_m_idiv {X : am_X} {q : am_I} {i j : Nat} {ls st ls' st' : List Value} {S S' : am_S} (h : am_x_idiv X q i ls st S = some (.inl (j, ls', st', S'))) : S.1.1 ≤ S'.1.1 ∧ S.1.2 ≤ S'.1.2 := by
  unfold am_x_idiv am_go at h
  repeat' split at h
  all_goals (cases h <;> first
    | exact ⟨Nat.le_refl _, Nat.le_refl _⟩
    | exact ⟨Nat.le_add_right _ _, Nat.le_add_right _ _⟩
    | exact ⟨Nat.le_trans (Nat.le_add_right _ _) (Nat.le_add_right _ _), Nat.le_trans (Nat.le_add_right _ _) (Nat.le_add_right _ _)⟩)
theorem am_m_irem {X : am_X} {q : am_I} {i j : Nat} {ls st ls' st' : List Value} {S S' : am_S} (h : am_x_irem X q i ls st S = some (.inl (j, ls', st', S'))) : S.1.1 ≤ S'.1.1 ∧ S.1.2 ≤ S'.1.2 := by
  unfold am_x_irem am_go at h
  repeat' split at h
  all_goals (cases h <;> first
    | exact ⟨Nat.le_refl _, Nat.le_refl _⟩
    | exact ⟨Nat.le_add_right _ _, Nat.le_add_right _ _⟩
    | exact ⟨Nat.le_trans (Nat.le_add_right _ _) (Nat.le_add_right _ _), Nat.le_trans (Nat.le_add_right _ _) (Nat.le_add_right _ _)⟩)
theorem am_m_ladd {X : am_X} {q : am_I} {i j : Nat} {ls st ls' st' : List Value} {S S' : am_S} (h : am_x_ladd X q i ls st S = some (.inl (j, ls', st', S'))) : S.1.1 ≤ S'.1.1 ∧ S.1.2 ≤ S'.1.2 := by
  unfold am_x_ladd am_go at h
  repeat' split at h
  all_goals (cases h <;> first
    | exact ⟨Nat.le_refl _, Nat.le_refl _⟩
    | exact ⟨Nat.le_add_right _ _, Nat.le_add_right _ _⟩
    | exact ⟨Nat.le_trans (Nat.le_add_right _ _) (Nat.le_add_right _ _), Nat.le_trans (Nat.le_add_right _ _) (Nat.le_add_right _ _)⟩)
theorem am_m_lsub {X : am_X} {q : am_I} {i j : Nat} {ls st ls' st' : List Value} {S S' : am_S} (h : am_x_lsub X q i ls st S = some (.inl (j, ls', st', S'))) : S.1.1 ≤ S'.1.1 ∧ S.1.2 ≤ S'.1.2 := by
  unfold am_x_lsub am_go at h
  repeat' split at h
  all_goals (cases h <;> first
    | exact ⟨Nat.le_refl _, Nat.le_refl _⟩
    | exact ⟨Nat.le_add_right _ _, Nat.le_add_right _ _⟩
    | exact ⟨Nat.le_trans (Nat.le_add_right _ _) (Nat.le_add_right _ _), Nat.le_trans (Nat.le_add_right _ _) (Nat.le_add_right _ _)⟩)
theorem am_m_lmul {X : am_X} {q : am_I} {i j : Nat} {ls st ls' st' : List Value} {S S' : am_S} (h : am_x_lmul X q i ls st S = some (.inl (j, ls', st', S'))) : S.1.1 ≤ S'.1.1 ∧ S.1.2 ≤ S'.1.2 := by
  unfold am_x_lmul am_go at h
  repeat' split at h
  all_goals (cases h <;> first
    | exact ⟨Nat.le_refl _, Nat.le_refl _⟩
    | exact ⟨Nat.le_add_right _ _, Nat.le_add_right _ _⟩
    | exact ⟨Nat.le_trans (Nat.le_add_right _ _) (Nat.le_add_right _ _), Nat.le_trans (Nat.le_add_right _ _) (Nat.le_add_right _ _)⟩)
theorem am_m_land {X : am_X} {q : am_I} {i j : Nat} {ls st ls' st' : List Value} {S S' : am_S} (h : am_x_land X q i ls st S = some (.inl (j, ls', st', S'))) : S.1.1 ≤ S'.1.1 ∧ S.1.2 ≤ S'.1.2 := by
  unfold am_x_land am_go at h
  repeat' split at h
  all_goals (cases h <;> first
    | exact ⟨Nat.le_refl _, Nat.le_refl _⟩
    | exact ⟨Nat.le_add_right _ _, Nat.le_add_right _ _⟩
    | exact ⟨Nat.le_trans (Nat.le_add_right _ _) (Nat.le_add_right _ _), Nat.le_trans (Nat.le_add_right _ _) (Nat.le_add_right _ _)⟩)
theorem am_m_lor {X : am_X} {q : am_I} {i j : Nat} {ls st ls' st' : List Value} {S S' : am_S} (h : am_x_lor X q i ls st S = some (.inl (j, ls', st', S'))) : S.1.1 ≤ S'.1.1 ∧ S.1.2 ≤ S'.1.2 := by
  unfold am_x_lor am_go at h
  repeat' split at h
  all_goals (cases h <;> first
    | exact ⟨Nat.le_refl _, Nat.le_refl _⟩
    | exact ⟨Nat.le_add_right _ _, Nat.le_add_right _ _⟩
    | exact ⟨Nat.le_trans (Nat.le_add_right _ _) (Nat.le_add_right _ _), Nat.le_trans (Nat.le_add_right _ _) (Nat.le_add_right _ _)⟩)
theorem am_m_lshl {X : am_X} {q : am_I} {i j : Nat} {ls st ls' st' : List Value} {S S' : am_S} (h : am_x_lshl X q i ls st S = some (.inl (j, ls', st', S'))) : S.1.1 ≤ S'.1.1 ∧ S.1.2 ≤ S'.1.2 := by
  unfold am_x_lshl am_go at h
  repeat' split at h
  all_goals (cases h <;> first
    | exact ⟨Nat.le_refl _, Nat.le_refl _⟩
    | exact ⟨Nat.le_add_right _ _, Nat.le_add_right _ _⟩
    | exact ⟨Nat.le_trans (Nat.le_add_right _ _) (Nat.le_add_right _ _), Nat.le_trans (Nat.le_add_right _ _) (Nat.le_add_right _ _)⟩)
theorem am_m_lushr {X : am_X} {q : am_I} {i j : Nat} {ls st ls' st' : List Value} {S S' : am_S} (h : am_x_lushr X q i ls st S = some (.inl (j, ls', st', S'))) : S.1.1 ≤ S'.1.1 ∧ S.1.2 ≤ S'.1.2 := by
  unfold am_x_lushr am_go at h
  repeat' split at h
  all_goals (cases h <;> first
    | exact ⟨Nat.le_refl _, Nat.le_refl _⟩
    | exact ⟨Nat.le_add_right _ _, Nat.le_add_right _ _⟩
    | exact ⟨Nat.le_trans (Nat.le_add_right _ _) (Nat.le_add_right _ _), Nat.le_trans (Nat.le_add_right _ _) (Nat.le_add_right _ _)⟩)
theorem am_m_lrem {X : am_X} {q : am_I} {i j : Nat} {ls st ls' st' : List Value} {S S' : am_S} (h : am_x_lrem X q i ls st S = some (.inl (j, ls', st', S'))) : S.1.1 ≤ S'.1.1 ∧ S.1.2 ≤ S'.1.2 := by
  unfold am_x_lrem am_go at h
  repeat' split at h
  all_goals (cases h <;> first
    | exact ⟨Nat.le_refl _, Nat.le_refl _⟩
    | exact ⟨Nat.le_add_right _ _, Nat.le_add_right _ _⟩
    | exact ⟨Nat.le_trans (Nat.le_add_right _ _) (Nat.le_add_right _ _), Nat.le_trans (Nat.le_add_right _ _) (Nat.le_add_right _ _)⟩)
theorem am_m_i2l {X : am_X} {q : am_I} {i j : Nat} {ls st ls' st' : List Value} {S S' : am_S} (h : am_x_i2l X q i ls st S = some (.inl (j, ls', st', S'))) : S.1.1 ≤ S'.1.1 ∧ S.1.2 ≤ S'.1.2 := by
  unfold am_x_i2l am_go at h
  repeat' split at h
  all_goals (cases h <;> first
    | exact ⟨Nat.le_refl _, Nat.le_refl _⟩
    | exact ⟨Nat.le_add_right _ _, Nat.le_add_right _ _⟩
    | exact ⟨Nat.le_trans (Nat.le_add_right _ _) (Nat.le_add_right _ _), Nat.le_trans (Nat.le_add_right _ _) (Nat.le_add_right _ _)⟩)
theorem am_m_l2i {X : am_X} {q : am_I} {i j : Nat} {ls st ls' st' : List Value} {S S' : am_S} (h : am_x_l2i X q i ls st S = some (.inl (j, ls', st', S'))) : S.1.1 ≤ S'.1.1 ∧ S.1.2 ≤ S'.1.2 := by
  unfold am_x_l2i am_go at h
  repeat' split at h
  all_goals (cases h <;> first
    | exact ⟨Nat.le_refl _, Nat.le_refl _⟩
    | exact ⟨Nat.le_add_right _ _, Nat.le_add_right _ _⟩
    | exact ⟨Nat.le_trans (Nat.le_add_right _ _) (Nat.le_add_right _ _), Nat.le_trans (Nat.le_add_right _ _) (Nat.le_add_right _ _)⟩)
theorem am_m_i2c {X : am_X} {q : am_I} {i j : Nat} {ls st ls' st' : List Value} {S S' : am_S} (h : am_x_i2c X q i ls st S = some (.inl (j, ls', st', S'))) : S.1.1 ≤ S'.1.1 ∧ S.1.2 ≤ S'.1.2 := by
  unfold am_x_i2c am_go at h
  repeat' split at h
  all_goals (cases h <;> first
    | exact ⟨Nat.le_refl _, Nat.le_refl _⟩
    | exact ⟨Nat.le_add_right _ _, Nat.le_add_right _ _⟩
    | exact ⟨Nat.le_trans (Nat.le_add_right _ _) (Nat.le_add_right _ _), Nat.le_trans (Nat.le_add_right _ _) (Nat.le_add_right _ _)⟩)
theorem am_m_lconst {X : am_X} {q : am_I} {i j : Nat} {ls st ls' st' : List Value} {S S' : am_S} (h : am_x_lconst X q i ls st S = some (.inl (j, ls', st', S'))) : S.1.1 ≤ S'.1.1 ∧ S.1.2 ≤ S'.1.2 := by
  unfold am_x_lconst am_go at h
  repeat' split at h
  all_goals (cases h <;> first
    | exact ⟨Nat.le_refl _, Nat.le_refl _⟩
    | exact ⟨Nat.le_add_right _ _, Nat.le_add_right _ _⟩
    | exact ⟨Nat.le_trans (Nat.le_add_right _ _) (Nat.le_add_right _ _), Nat.le_trans (Nat.le_add_right _ _) (Nat.le_add_right _ _)⟩)
theorem am_m_ldc2 {X : am_X} {q : am_I} {i j : Nat} {ls st ls' st' : List Value} {S S' : am_S} (h : am_x_ldc2 X q i ls st S = some (.inl (j, ls', st', S'))) : S.1.1 ≤ S'.1.1 ∧ S.1.2 ≤ S'.1.2 := by
  unfold am_x_ldc2 am_go at h
  repeat' split at h
  all_goals (cases h <;> first
    | exact ⟨Nat.le_refl _, Nat.le_refl _⟩
    | exact ⟨Nat.le_add_right _ _, Nat.le_add_right _ _⟩
    | exact ⟨Nat.le_trans (Nat.le_add_right _ _) (Nat.le_add_right _ _), Nat.le_trans (Nat.le_add_right _ _) (Nat.le_add_right _ _)⟩)
theorem am_m_dup {X : am_X} {q : am_I} {i j : Nat} {ls st ls' st' : List Value} {S S' : am_S} (h : am_x_dup X q i ls st S = some (.inl (j, ls', st', S'))) : S.1.1 ≤ S'.1.1 ∧ S.1.2 ≤ S'.1.2 := by
  unfold am_x_dup am_go at h
  repeat' split at h
  all_goals (cases h <;> first
    | exact ⟨Nat.le_refl _, Nat.le_refl _⟩
    | exact ⟨Nat.le_add_right _ _, Nat.le_add_right _ _⟩
    | exact ⟨Nat.le_trans (Nat.le_add_right _ _) (Nat.le_add_right _ _), Nat.le_trans (Nat.le_add_right _ _) (Nat.le_add_right _ _)⟩)
theorem am_m_pop {X : am_X} {q : am_I} {i j : Nat} {ls st ls' st' : List Value} {S S' : am_S} (h : am_x_pop X q i ls st S = some (.inl (j, ls', st', S'))) : S.1.1 ≤ S'.1.1 ∧ S.1.2 ≤ S'.1.2 := by
  unfold am_x_pop am_go at h
  repeat' split at h
  all_goals (cases h <;> first
    | exact ⟨Nat.le_refl _, Nat.le_refl _⟩
    | exact ⟨Nat.le_add_right _ _, Nat.le_add_right _ _⟩
    | exact ⟨Nat.le_trans (Nat.le_add_right _ _) (Nat.le_add_right _ _), Nat.le_trans (Nat.le_add_right _ _) (Nat.le_add_right _ _)⟩)
theorem am_m_dup2 {X : am_X} {q : am_I} {i j : Nat} {ls st ls' st' : List Value} {S S' : am_S} (h : am_x_dup2 X q i ls st S = some (.inl (j, ls', st', S'))) : S.1.1 ≤ S'.1.1 ∧ S.1.2 ≤ S'.1.2 := by
  unfold am_x_dup2 am_go at h
  repeat' split at h
  all_goals (cases h <;> first
    | exact ⟨Nat.le_refl _, Nat.le_refl _⟩
    | exact ⟨Nat.le_add_right _ _, Nat.le_add_right _ _⟩
    | exact ⟨Nat.le_trans (Nat.le_add_right _ _) (Nat.le_add_right _ _), Nat.le_trans (Nat.le_add_right _ _) (Nat.le_add_right _ _)⟩)
theorem am_m_ifc {X : am_X} {q : am_I} {i j : Nat} {ls st ls' st' : List Value} {S S' : am_S} (h : am_x_ifc X q i ls st S = some (.inl (j, ls', st', S'))) : S.1.1 ≤ S'.1.1 ∧ S.1.2 ≤ S'.1.2 := by
  unfold am_x_ifc am_go at h
  repeat' split at h
  all_goals (cases h <;> first
    | exact ⟨Nat.le_refl _, Nat.le_refl _⟩
    | exact ⟨Nat.le_add_right _ _, Nat.le_add_right _ _⟩
    | exact ⟨Nat.le_trans (Nat.le_add_right _ _) (Nat.le_add_right _ _), Nat.le_trans (Nat.le_add_right _ _) (Nat.le_add_right _ _)⟩)
theorem am_m_icmp {X : am_X} {q : am_I} {i j : Nat} {ls st ls' st' : List Value} {S S' : am_S} (h : am_x_icmp X q i ls st S = some (.inl (j, ls', st', S'))) : S.1.1 ≤ S'.1.1 ∧ S.1.2 ≤ S'.1.2 := by
  unfold am_x_icmp am_go at h
  repeat' split at h
  all_goals (cases h <;> first
    | exact ⟨Nat.le_refl _, Nat.le_refl _⟩
    | exact ⟨Nat.le_add_right _ _, Nat.le_add_right _ _⟩
    | exact ⟨Nat.le_trans (Nat.le_add_right _ _) (Nat.le_add_right _ _), Nat.le_trans (Nat.le_add_right _ _) (Nat.le_add_right _ _)⟩)
theorem am_m_goto {X : am_X} {q : am_I} {i j : Nat} {ls st ls' st' : List Value} {S S' : am_S} (h : am_x_goto X q i ls st S = some (.inl (j, ls', st', S'))) : S.1.1 ≤ S'.1.1 ∧ S.1.2 ≤ S'.1.2 := by
  unfold am_x_goto am_go at h
  repeat' split at h
  all_goals (cases h <;> first
    | exact ⟨Nat.le_refl _, Nat.le_refl _⟩
    | exact ⟨Nat.le_add_right _ _, Nat.le_add_right _ _⟩
    | exact ⟨Nat.le_trans (Nat.le_add_right _ _) (Nat.le_add_right _ _), Nat.le_trans (Nat.le_add_right _ _) (Nat.le_add_right _ _)⟩)
theorem am_m_tsw {X : am_X} {q : am_I} {i j : Nat} {ls st ls' st' : List Value} {S S' : am_S} (h : am_x_tsw X q i ls st S = some (.inl (j, ls', st', S'))) : S.1.1 ≤ S'.1.1 ∧ S.1.2 ≤ S'.1.2 := by
  unfold am_x_tsw am_go at h
  repeat' split at h
  all_goals (cases h <;> first
    | exact ⟨Nat.le_refl _, Nat.le_refl _⟩
    | exact ⟨Nat.le_add_right _ _, Nat.le_add_right _ _⟩
    | exact ⟨Nat.le_trans (Nat.le_add_right _ _) (Nat.le_add_right _ _), Nat.le_trans (Nat.le_add_right _ _) (Nat.le_add_right _ _)⟩)
theorem am_m_getf {X : am_X} {q : am_I} {i j : Nat} {ls st ls' st' : List Value} {S S' : am_S} (h : am_x_getf X q i ls st S = some (.inl (j, ls', st', S'))) : S.1.1 ≤ S'.1.1 ∧ S.1.2 ≤ S'.1.2 := by
  unfold am_x_getf am_go at h
  repeat' split at h
  all_goals (cases h <;> first
    | exact ⟨Nat.le_refl _, Nat.le_refl _⟩
    | exact ⟨Nat.le_add_right _ _, Nat.le_add_right _ _⟩
    | exact ⟨Nat.le_trans (Nat.le_add_right _ _) (Nat.le_add_right _ _), Nat.le_trans (Nat.le_add_right _ _) (Nat.le_add_right _ _)⟩)
theorem am_m_putf {X : am_X} {q : am_I} {i j : Nat} {ls st ls' st' : List Value} {S S' : am_S} (h : am_x_putf X q i ls st S = some (.inl (j, ls', st', S'))) : S.1.1 ≤ S'.1.1 ∧ S.1.2 ≤ S'.1.2 := by
  unfold am_x_putf am_go at h
  repeat' split at h
  all_goals (cases h <;> first
    | exact ⟨Nat.le_refl _, Nat.le_refl _⟩
    | exact ⟨Nat.le_add_right _ _, Nat.le_add_right _ _⟩
    | exact ⟨Nat.le_trans (Nat.le_add_right _ _) (Nat.le_add_right _ _), Nat.le_trans (Nat.le_add_right _ _) (Nat.le_add_right _ _)⟩)
theorem am_m_putr {X : am_X} {q : am_I} {i j : Nat} {ls st ls' st' : List Value} {S S' : am_S} (h : am_x_putr X q i ls st S = some (.inl (j, ls', st', S'))) : S.1.1 ≤ S'.1.1 ∧ S.1.2 ≤ S'.1.2 := by
  unfold am_x_putr am_go at h
  repeat' split at h
  all_goals (cases h <;> first
    | exact ⟨Nat.le_refl _, Nat.le_refl _⟩
    | exact ⟨Nat.le_add_right _ _, Nat.le_add_right _ _⟩
    | exact ⟨Nat.le_trans (Nat.le_add_right _ _) (Nat.le_add_right _ _), Nat.le_trans (Nat.le_add_right _ _) (Nat.le_add_right _ _)⟩)
theorem am_m_iald {X : am_X} {q : am_I} {i j : Nat} {ls st ls' st' : List Value} {S S' : am_S} (h : am_x_iald X q i ls st S = some (.inl (j, ls', st', S'))) : S.1.1 ≤ S'.1.1 ∧ S.1.2 ≤ S'.1.2 := by
  unfold am_x_iald am_go at h
  repeat' split at h
  all_goals (cases h <;> first
    | exact ⟨Nat.le_refl _, Nat.le_refl _⟩
    | exact ⟨Nat.le_add_right _ _, Nat.le_add_right _ _⟩
    | exact ⟨Nat.le_trans (Nat.le_add_right _ _) (Nat.le_add_right _ _), Nat.le_trans (Nat.le_add_right _ _) (Nat.le_add_right _ _)⟩)
theorem am_m_iast {X : am_X} {q : am_I} {i j : Nat} {ls st ls' st' : List Value} {S S' : am_S} (h : am_x_iast X q i ls st S = some (.inl (j, ls', st', S'))) : S.1.1 ≤ S'.1.1 ∧ S.1.2 ≤ S'.1.2 := by
  unfold am_x_iast am_go at h
  repeat' split at h
  all_goals (cases h <;> first
    | exact ⟨Nat.le_refl _, Nat.le_refl _⟩
    | exact ⟨Nat.le_add_right _ _, Nat.le_add_right _ _⟩
    | exact ⟨Nat.le_trans (Nat.le_add_right _ _) (Nat.le_add_right _ _), Nat.le_trans (Nat.le_add_right _ _) (Nat.le_add_right _ _)⟩)
theorem am_m_zald {X : am_X} {q : am_I} {i j : Nat} {ls st ls' st' : List Value} {S S' : am_S} (h : am_x_zald X q i ls st S = some (.inl (j, ls', st', S'))) : S.1.1 ≤ S'.1.1 ∧ S.1.2 ≤ S'.1.2 := by
  unfold am_x_zald am_go at h
  repeat' split at h
  all_goals (cases h <;> first
    | exact ⟨Nat.le_refl _, Nat.le_refl _⟩
    | exact ⟨Nat.le_add_right _ _, Nat.le_add_right _ _⟩
    | exact ⟨Nat.le_trans (Nat.le_add_right _ _) (Nat.le_add_right _ _), Nat.le_trans (Nat.le_add_right _ _) (Nat.le_add_right _ _)⟩)
theorem am_m_zast {X : am_X} {q : am_I} {i j : Nat} {ls st ls' st' : List Value} {S S' : am_S} (h : am_x_zast X q i ls st S = some (.inl (j, ls', st', S'))) : S.1.1 ≤ S'.1.1 ∧ S.1.2 ≤ S'.1.2 := by
  unfold am_x_zast am_go at h
  repeat' split at h
  all_goals (cases h <;> first
    | exact ⟨Nat.le_refl _, Nat.le_refl _⟩
    | exact ⟨Nat.le_add_right _ _, Nat.le_add_right _ _⟩
    | exact ⟨Nat.le_trans (Nat.le_add_right _ _) (Nat.le_add_right _ _), Nat.le_trans (Nat.le_add_right _ _) (Nat.le_add_right _ _)⟩)
theorem am_m_lald {X : am_X} {q : am_I} {i j : Nat} {ls st ls' st' : List Value} {S S' : am_S} (h : am_x_lald X q i ls st S = some (.inl (j, ls', st', S'))) : S.1.1 ≤ S'.1.1 ∧ S.1.2 ≤ S'.1.2 := by
  unfold am_x_lald am_go at h
  repeat' split at h
  all_goals (cases h <;> first
    | exact ⟨Nat.le_refl _, Nat.le_refl _⟩
    | exact ⟨Nat.le_add_right _ _, Nat.le_add_right _ _⟩
    | exact ⟨Nat.le_trans (Nat.le_add_right _ _) (Nat.le_add_right _ _), Nat.le_trans (Nat.le_add_right _ _) (Nat.le_add_right _ _)⟩)
theorem am_m_last {X : am_X} {q : am_I} {i j : Nat} {ls st ls' st' : List Value} {S S' : am_S} (h : am_x_last X q i ls st S = some (.inl (j, ls', st', S'))) : S.1.1 ≤ S'.1.1 ∧ S.1.2 ≤ S'.1.2 := by
  unfold am_x_last am_go at h
  repeat' split at h
  all_goals (cases h <;> first
    | exact ⟨Nat.le_refl _, Nat.le_refl _⟩
    | exact ⟨Nat.le_add_right _ _, Nat.le_add_right _ _⟩
    | exact ⟨Nat.le_trans (Nat.le_add_right _ _) (Nat.le_add_right _ _), Nat.le_trans (Nat.le_add_right _ _) (Nat.le_add_right _ _)⟩)
theorem am_m_aald {X : am_X} {q : am_I} {i j : Nat} {ls st ls' st' : List Value} {S S' : am_S} (h : am_x_aald X q i ls st S = some (.inl (j, ls', st', S'))) : S.1.1 ≤ S'.1.1 ∧ S.1.2 ≤ S'.1.2 := by
  unfold am_x_aald am_go at h
  repeat' split at h
  all_goals (cases h <;> first
    | exact ⟨Nat.le_refl _, Nat.le_refl _⟩
    | exact ⟨Nat.le_add_right _ _, Nat.le_add_right _ _⟩
    | exact ⟨Nat.le_trans (Nat.le_add_right _ _) (Nat.le_add_right _ _), Nat.le_trans (Nat.le_add_right _ _) (Nat.le_add_right _ _)⟩)
theorem am_m_aast {X : am_X} {q : am_I} {i j : Nat} {ls st ls' st' : List Value} {S S' : am_S} (h : am_x_aast X q i ls st S = some (.inl (j, ls', st', S'))) : S.1.1 ≤ S'.1.1 ∧ S.1.2 ≤ S'.1.2 := by
  unfold am_x_aast am_go at h
  repeat' split at h
  all_goals (cases h <;> first
    | exact ⟨Nat.le_refl _, Nat.le_refl _⟩
    | exact ⟨Nat.le_add_right _ _, Nat.le_add_right _ _⟩
    | exact ⟨Nat.le_trans (Nat.le_add_right _ _) (Nat.le_add_right _ _), Nat.le_trans (Nat.le_add_right _ _) (Nat.le_add_right _ _)⟩)
theorem am_m_alen {X : am_X} {q : am_I} {i j : Nat} {ls st ls' st' : List Value} {S S' : am_S} (h : am_x_alen X q i ls st S = some (.inl (j, ls', st', S'))) : S.1.1 ≤ S'.1.1 ∧ S.1.2 ≤ S'.1.2 := by
  unfold am_x_alen am_go at h
  repeat' split at h
  all_goals (cases h <;> first
    | exact ⟨Nat.le_refl _, Nat.le_refl _⟩
    | exact ⟨Nat.le_add_right _ _, Nat.le_add_right _ _⟩
    | exact ⟨Nat.le_trans (Nat.le_add_right _ _) (Nat.le_add_right _ _), Nat.le_trans (Nat.le_add_right _ _) (Nat.le_add_right _ _)⟩)
theorem am_m_gets {X : am_X} {q : am_I} {i j : Nat} {ls st ls' st' : List Value} {S S' : am_S} (h : am_x_gets X q i ls st S = some (.inl (j, ls', st', S'))) : S.1.1 ≤ S'.1.1 ∧ S.1.2 ≤ S'.1.2 := by
  unfold am_x_gets am_go at h
  repeat' split at h
  all_goals (cases h <;> first
    | exact ⟨Nat.le_refl _, Nat.le_refl _⟩
    | exact ⟨Nat.le_add_right _ _, Nat.le_add_right _ _⟩
    | exact ⟨Nat.le_trans (Nat.le_add_right _ _) (Nat.le_add_right _ _), Nat.le_trans (Nat.le_add_right _ _) (Nat.le_add_right _ _)⟩)
theorem am_m_gets_of_text {X : am_X} {q : am_I} {i j : Nat} {ls st ls' st' : List Value} {S S' : am_S} (h : am_x_gets_of_text X q i ls st S = some (.inl (j, ls', st', S'))) : S.1.1 ≤ S'.1.1 ∧ S.1.2 ≤ S'.1.2 := by
  unfold am_x_gets_of_text am_go at h
  repeat' split at h
  all_goals (cases h <;> first
    | exact ⟨Nat.le_refl _, Nat.le_refl _⟩
    | exact ⟨Nat.le_add_right _ _, Nat.le_add_right _ _⟩
    | exact ⟨Nat.le_trans (Nat.le_add_right _ _) (Nat.le_add_right _ _), Nat.le_trans (Nat.le_add_right _ _) (Nat.le_add_right _ _)⟩)
theorem am_m_ldcs {X : am_X} {q : am_I} {i j : Nat} {ls st ls' st' : List Value} {S S' : am_S} (h : am_x_ldcs X q i ls st S = some (.inl (j, ls', st', S'))) : S.1.1 ≤ S'.1.1 ∧ S.1.2 ≤ S'.1.2 := by
  unfold am_x_ldcs am_go at h
  repeat' split at h
  all_goals (cases h <;> first
    | exact ⟨Nat.le_refl _, Nat.le_refl _⟩
    | exact ⟨Nat.le_add_right _ _, Nat.le_add_right _ _⟩
    | exact ⟨Nat.le_trans (Nat.le_add_right _ _) (Nat.le_add_right _ _), Nat.le_trans (Nat.le_add_right _ _) (Nat.le_add_right _ _)⟩)
theorem am_m_oini {X : am_X} {q : am_I} {i j : Nat} {ls st ls' st' : List Value} {S S' : am_S} (h : am_x_oini X q i ls st S = some (.inl (j, ls', st', S'))) : S.1.1 ≤ S'.1.1 ∧ S.1.2 ≤ S'.1.2 := by
  unfold am_x_oini am_go at h
  repeat' split at h
  all_goals (cases h <;> first
    | exact ⟨Nat.le_refl _, Nat.le_refl _⟩
    | exact ⟨Nat.le_add_right _ _, Nat.le_add_right _ _⟩
    | exact ⟨Nat.le_trans (Nat.le_add_right _ _) (Nat.le_add_right _ _), Nat.le_trans (Nat.le_add_right _ _) (Nat.le_add_right _ _)⟩)
theorem am_m_new {X : am_X} {q : am_I} {i j : Nat} {ls st ls' st' : List Value} {S S' : am_S} (h : am_x_new X q i ls st S = some (.inl (j, ls', st', S'))) : S.1.1 ≤ S'.1.1 ∧ S.1.2 ≤ S'.1.2 := by
  unfold am_x_new am_go at h
  repeat' split at h
  all_goals (cases h <;> first
    | exact ⟨Nat.le_refl _, Nat.le_refl _⟩
    | exact ⟨Nat.le_add_right _ _, Nat.le_add_right _ _⟩
    | exact ⟨Nat.le_trans (Nat.le_add_right _ _) (Nat.le_add_right _ _), Nat.le_trans (Nat.le_add_right _ _) (Nat.le_add_right _ _)⟩)
theorem am_m_newa {X : am_X} {q : am_I} {i j : Nat} {ls st ls' st' : List Value} {S S' : am_S} (h : am_x_newa X q i ls st S = some (.inl (j, ls', st', S'))) : S.1.1 ≤ S'.1.1 ∧ S.1.2 ≤ S'.1.2 := by
  unfold am_x_newa am_go at h
  repeat' split at h
  all_goals (cases h <;> first
    | exact ⟨Nat.le_refl _, Nat.le_refl _⟩
    | exact ⟨Nat.le_add_right _ _, Nat.le_add_right _ _⟩
    | exact ⟨Nat.le_trans (Nat.le_add_right _ _) (Nat.le_add_right _ _), Nat.le_trans (Nat.le_add_right _ _) (Nat.le_add_right _ _)⟩)
theorem am_m_anew {X : am_X} {q : am_I} {i j : Nat} {ls st ls' st' : List Value} {S S' : am_S} (h : am_x_anew X q i ls st S = some (.inl (j, ls', st', S'))) : S.1.1 ≤ S'.1.1 ∧ S.1.2 ≤ S'.1.2 := by
  unfold am_x_anew am_go at h
  repeat' split at h
  all_goals (cases h <;> first
    | exact ⟨Nat.le_refl _, Nat.le_refl _⟩
    | exact ⟨Nat.le_add_right _ _, Nat.le_add_right _ _⟩
    | exact ⟨Nat.le_trans (Nat.le_add_right _ _) (Nat.le_add_right _ _), Nat.le_trans (Nat.le_add_right _ _) (Nat.le_add_right _ _)⟩)
theorem am_m_mnew {X : am_X} {q : am_I} {i j : Nat} {ls st ls' st' : List Value} {S S' : am_S} (h : am_x_mnew X q i ls st S = some (.inl (j, ls', st', S'))) : S.1.1 ≤ S'.1.1 ∧ S.1.2 ≤ S'.1.2 := by
  unfold am_x_mnew am_go at h
  repeat' split at h
  all_goals (cases h <;> first
    | exact ⟨Nat.le_refl _, Nat.le_refl _⟩
    | exact ⟨Nat.le_add_right _ _, Nat.le_add_right _ _⟩
    | exact ⟨Nat.le_trans (Nat.le_add_right _ _) (Nat.le_add_right _ _), Nat.le_trans (Nat.le_add_right _ _) (Nat.le_add_right _ _)⟩)
theorem am_m_acpy {X : am_X} {q : am_I} {i j : Nat} {ls st ls' st' : List Value} {S S' : am_S} (h : am_x_acpy X q i ls st S = some (.inl (j, ls', st', S'))) : S.1.1 ≤ S'.1.1 ∧ S.1.2 ≤ S'.1.2 := by
  unfold am_x_acpy am_go at h
  repeat' split at h
  all_goals (cases h <;> first
    | exact ⟨Nat.le_refl _, Nat.le_refl _⟩
    | exact ⟨Nat.le_add_right _ _, Nat.le_add_right _ _⟩
    | exact ⟨Nat.le_trans (Nat.le_add_right _ _) (Nat.le_add_right _ _), Nat.le_trans (Nat.le_add_right _ _) (Nat.le_add_right _ _)⟩)
theorem am_n_invv {X : am_X} {q : am_I} {i : Nat} {ls st : List Value} {S : am_S} {z : Nat × List Value × List Value × am_S} (h : am_x_invv X q i ls st S = some (.inl z)) : False := by
  unfold am_x_invv at h
  repeat' split at h
  all_goals cases h
theorem am_n_invs {X : am_X} {q : am_I} {i : Nat} {ls st : List Value} {S : am_S} {z : Nat × List Value × List Value × am_S} (h : am_x_invs X q i ls st S = some (.inl z)) : False := by
  unfold am_x_invs at h
  repeat' split at h
  all_goals cases h
theorem am_n_invi {X : am_X} {q : am_I} {i : Nat} {ls st : List Value} {S : am_S} {z : Nat × List Value × List Value × am_S} (h : am_x_invi X q i ls st S = some (.inl z)) : False := by
  unfold am_x_invi at h
  repeat' split at h
  all_goals cases h
theorem am_n_invn {X : am_X} {q : am_I} {i : Nat} {ls st : List Value} {S : am_S} {z : Nat × List Value × List Value × am_S} (h : am_x_invn X q i ls st S = some (.inl z)) : False := by
  unfold am_x_invn at h
  repeat' split at h
  all_goals cases h
theorem am_n_invt {X : am_X} {q : am_I} {i : Nat} {ls st : List Value} {S : am_S} {z : Nat × List Value × List Value × am_S} (h : am_x_invt X q i ls st S = some (.inl z)) : False := by
  unfold am_x_invt at h
  repeat' split at h
  all_goals cases h
theorem am_n_iret {X : am_X} {q : am_I} {i : Nat} {ls st : List Value} {S : am_S} {z : Nat × List Value × List Value × am_S} (h : am_x_iret X q i ls st S = some (.inl z)) : False := by
  unfold am_x_iret at h
  repeat' split at h
  all_goals cases h
theorem am_n_lret {X : am_X} {q : am_I} {i : Nat} {ls st : List Value} {S : am_S} {z : Nat × List Value × List Value × am_S} (h : am_x_lret X q i ls st S = some (.inl z)) : False := by
  unfold am_x_lret at h
  repeat' split at h
  all_goals cases h
theorem am_n_aret {X : am_X} {q : am_I} {i : Nat} {ls st : List Value} {S : am_S} {z : Nat × List Value × List Value × am_S} (h : am_x_aret X q i ls st S = some (.inl z)) : False := by
  unfold am_x_aret at h
  repeat' split at h
  all_goals cases h
theorem am_n_vret {X : am_X} {q : am_I} {i : Nat} {ls st : List Value} {S : am_S} {z : Nat × List Value × List Value × am_S} (h : am_x_vret X q i ls st S = some (.inl z)) : False := by
  unfold am_x_vret at h
  repeat' split at h
  all_goals cases h
theorem am_step_mono {X : am_X} {q : am_I} {i j : Nat} {ls st ls' st' : List Value} {S S' : am_S} (h : am_step X q i ls st S = some (.inl (j, ls', st', S'))) : S.1.1 ≤ S'.1.1 ∧ S.1.2 ≤ S'.1.2 := by
  unfold am_step at h
  by_cases h0 : q.1 = 0
  · rw [if_pos h0] at h
    exact am_m_iconst h
  rw [if_neg h0] at h
  by_cases h1 : q.1 = 1
  · rw [if_pos h1] at h
    exact am_m_bipush h
  rw [if_neg h1] at h
  by_cases h2 : q.1 = 2
  · rw [if_pos h2] at h
    exact am_m_sipush h
  rw [if_neg h2] at h
  by_cases h3 : q.1 = 3
  · rw [if_pos h3] at h
    exact am_m_ldc h
  rw [if_neg h3] at h
  by_cases h4 : q.1 = 4
  · rw [if_pos h4] at h
    exact am_m_ldcw h
  rw [if_neg h4] at h
  by_cases h5 : q.1 = 5
  · rw [if_pos h5] at h
    exact am_m_iload h
  rw [if_neg h5] at h
  by_cases h6 : q.1 = 6
  · rw [if_pos h6] at h
    exact am_m_aload h
  rw [if_neg h6] at h
  by_cases h7 : q.1 = 7
  · rw [if_pos h7] at h
    exact am_m_lload h
  rw [if_neg h7] at h
  by_cases h8 : q.1 = 8
  · rw [if_pos h8] at h
    exact am_m_istore h
  rw [if_neg h8] at h
  by_cases h9 : q.1 = 9
  · rw [if_pos h9] at h
    exact am_m_astore h
  rw [if_neg h9] at h
  by_cases h10 : q.1 = 10
  · rw [if_pos h10] at h
    exact am_m_lstore h
  rw [if_neg h10] at h
  by_cases h11 : q.1 = 11
  · rw [if_pos h11] at h
    exact am_m_iinc h
  rw [if_neg h11] at h
  by_cases h12 : q.1 = 12
  · rw [if_pos h12] at h
    exact am_m_iadd h
  rw [if_neg h12] at h
  by_cases h13 : q.1 = 13
  · rw [if_pos h13] at h
    exact am_m_isub h
  rw [if_neg h13] at h
  by_cases h14 : q.1 = 14
  · rw [if_pos h14] at h
    exact am_m_imul h
  rw [if_neg h14] at h
  by_cases h15 : q.1 = 15
  · rw [if_pos h15] at h
    exact am_m_iand h
  rw [if_neg h15] at h
  by_cases h16 : q.1 = 16
  · rw [if_pos h16] at h
    exact am_m_ior h
  rw [if_neg h16] at h
  by_cases h17 : q.1 = 17
  · rw [if_pos h17] at h
    exact am_m_ixor h
  rw [if_neg h17] at h
  by_cases h18 : q.1 = 18
  · rw [if_pos h18] at h
    exact am_m_ishl h
  rw [if_neg h18] at h
  by_cases h19 : q.1 = 19
  · rw [if_pos h19] at h
    exact am_m_ishr h
  rw [if_neg h19] at h
  by_cases h20 : q.1 = 20
  · rw [if_pos h20] at h
    exact am_m_iushr h
  rw [if_neg h20] at h
  by_cases h21 : q.1 = 21
  · rw [if_pos h21] at h
    exact am_m_ineg h
  rw [if_neg h21] at h
  by_cases h22 : q.1 = 22
  · rw [if_pos h22] at h
    exact am_m_idiv h
  rw [if_neg h22] at h
  by_cases h23 : q.1 = 23
  · rw [if_pos h23] at h
    exact am_m_irem h
  rw [if_neg h23] at h
  by_cases h24 : q.1 = 24
  · rw [if_pos h24] at h
    exact am_m_ladd h
  rw [if_neg h24] at h
  by_cases h25 : q.1 = 25
  · rw [if_pos h25] at h
    exact am_m_lsub h
  rw [if_neg h25] at h
  by_cases h26 : q.1 = 26
  · rw [if_pos h26] at h
    exact am_m_lmul h
  rw [if_neg h26] at h
  by_cases h27 : q.1 = 27
  · rw [if_pos h27] at h
    exact am_m_land h
  rw [if_neg h27] at h
  by_cases h28 : q.1 = 28
  · rw [if_pos h28] at h
    exact am_m_lor h
  rw [if_neg h28] at h
  by_cases h29 : q.1 = 29
  · rw [if_pos h29] at h
    exact am_m_lshl h
  rw [if_neg h29] at h
  by_cases h30 : q.1 = 30
  · rw [if_pos h30] at h
    exact am_m_lushr h
  rw [if_neg h30] at h
  by_cases h31 : q.1 = 31
  · rw [if_pos h31] at h
    exact am_m_lrem h
  rw [if_neg h31] at h
  by_cases h32 : q.1 = 32
  · rw [if_pos h32] at h
    exact am_m_i2l h
  rw [if_neg h32] at h
  by_cases h33 : q.1 = 33
  · rw [if_pos h33] at h
    exact am_m_l2i h
  rw [if_neg h33] at h
  by_cases h34 : q.1 = 34
  · rw [if_pos h34] at h
    exact am_m_i2c h
  rw [if_neg h34] at h
  by_cases h35 : q.1 = 35
  · rw [if_pos h35] at h
    exact am_m_lconst h
  rw [if_neg h35] at h
  by_cases h36 : q.1 = 36
  · rw [if_pos h36] at h
    exact am_m_ldc2 h
  rw [if_neg h36] at h
  by_cases h37 : q.1 = 37
  · rw [if_pos h37] at h
    exact am_m_dup h
  rw [if_neg h37] at h
  by_cases h38 : q.1 = 38
  · rw [if_pos h38] at h
    exact am_m_pop h
  rw [if_neg h38] at h
  by_cases h39 : q.1 = 39
  · rw [if_pos h39] at h
    exact am_m_dup2 h
  rw [if_neg h39] at h
  by_cases h40 : q.1 = 40
  · rw [if_pos h40] at h
    exact am_m_ifc h
  rw [if_neg h40] at h
  by_cases h41 : q.1 = 41
  · rw [if_pos h41] at h
    exact am_m_icmp h
  rw [if_neg h41] at h
  by_cases h42 : q.1 = 42
  · rw [if_pos h42] at h
    exact am_m_goto h
  rw [if_neg h42] at h
  by_cases h43 : q.1 = 43
  · rw [if_pos h43] at h
    exact am_m_tsw h
  rw [if_neg h43] at h
  by_cases h44 : q.1 = 44
  · rw [if_pos h44] at h
    exact am_m_getf h
  rw [if_neg h44] at h
  by_cases h45 : q.1 = 45
  · rw [if_pos h45] at h
    exact am_m_putf h
  rw [if_neg h45] at h
  by_cases h46 : q.1 = 46
  · rw [if_pos h46] at h
    exact am_m_putr h
  rw [if_neg h46] at h
  by_cases h47 : q.1 = 47
  · rw [if_pos h47] at h
    exact am_m_iald h
  rw [if_neg h47] at h
  by_cases h48 : q.1 = 48
  · rw [if_pos h48] at h
    exact am_m_iast h
  rw [if_neg h48] at h
  by_cases h49 : q.1 = 49
  · rw [if_pos h49] at h
    exact am_m_zald h
  rw [if_neg h49] at h
  by_cases h50 : q.1 = 50
  · rw [if_pos h50] at h
    exact am_m_zast h
  rw [if_neg h50] at h
  by_cases h51 : q.1 = 51
  · rw [if_pos h51] at h
    exact am_m_lald h
  rw [if_neg h51] at h
  by_cases h52 : q.1 = 52
  · rw [if_pos h52] at h
    exact am_m_last h
  rw [if_neg h52] at h
  by_cases h53 : q.1 = 53
  · rw [if_pos h53] at h
    exact am_m_aald h
  rw [if_neg h53] at h
  by_cases h54 : q.1 = 54
  · rw [if_pos h54] at h
    exact am_m_aast h
  rw [if_neg h54] at h
  by_cases h55 : q.1 = 55
  · rw [if_pos h55] at h
    exact am_m_alen h
  rw [if_neg h55] at h
  by_cases h56 : q.1 = 56
  · rw [if_pos h56] at h
    exact am_m_gets h
  rw [if_neg h56] at h
  by_cases h57 : q.1 = 57
  · rw [if_pos h57] at h
    exact am_m_gets_of_text h
  rw [if_neg h57] at h
  by_cases h58 : q.1 = 58
  · rw [if_pos h58] at h
    exact am_m_ldcs h
  rw [if_neg h58] at h
  by_cases h60 : q.1 = 60
  · rw [if_pos h60] at h
    exact absurd h (fun z => am_n_invv z)
  rw [if_neg h60] at h
  by_cases h61 : q.1 = 61
  · rw [if_pos h61] at h
    exact absurd h (fun z => am_n_invs z)
  rw [if_neg h61] at h
  by_cases h62 : q.1 = 62
  · rw [if_pos h62] at h
    exact absurd h (fun z => am_n_invi z)
  rw [if_neg h62] at h
  by_cases h63 : q.1 = 63
  · rw [if_pos h63] at h
    exact absurd h (fun z => am_n_invn z)
  rw [if_neg h63] at h
  by_cases h64 : q.1 = 64
  · rw [if_pos h64] at h
    exact absurd h (fun z => am_n_invt z)
  rw [if_neg h64] at h
  by_cases h65 : q.1 = 65
  · rw [if_pos h65] at h
    exact am_m_oini h
  rw [if_neg h65] at h
  by_cases h66 : q.1 = 66
  · rw [if_pos h66] at h
    exact am_m_new h
  rw [if_neg h66] at h
  by_cases h67 : q.1 = 67
  · rw [if_pos h67] at h
    exact am_m_newa h
  rw [if_neg h67] at h
  by_cases h68 : q.1 = 68
  · rw [if_pos h68] at h
    exact am_m_anew h
  rw [if_neg h68] at h
  by_cases h69 : q.1 = 69
  · rw [if_pos h69] at h
    exact am_m_mnew h
  rw [if_neg h69] at h
  by_cases h70 : q.1 = 70
  · rw [if_pos h70] at h
    exact am_m_acpy h
  rw [if_neg h70] at h
  by_cases h71 : q.1 = 71
  · rw [if_pos h71] at h
    exact absurd h (fun z => am_n_iret z)
  rw [if_neg h71] at h
  by_cases h72 : q.1 = 72
  · rw [if_pos h72] at h
    exact absurd h (fun z => am_n_lret z)
  rw [if_neg h72] at h
  by_cases h73 : q.1 = 73
  · rw [if_pos h73] at h
    exact absurd h (fun z => am_n_aret z)
  rw [if_neg h73] at h
  by_cases h74 : q.1 = 74
  · rw [if_pos h74] at h
    exact absurd h (fun z => am_n_vret z)
  rw [if_neg h74] at h
  cases h
theorem am_r_iconst {X : am_X} {q : am_I} {i : Nat} {ls st : List Value} {S : am_S} {r : Option Value × am_S} (h : am_x_iconst X q i ls st S = some (.inr (.inl r))) : False := by
  unfold am_x_iconst at h
  try unfold am_go at h
  repeat' split at h
  all_goals cases h
theorem am_r_bipush {X : am_X} {q : am_I} {i : Nat} {ls st : List Value} {S : am_S} {r : Option Value × am_S} (h : am_x_bipush X q i ls st S = some (.inr (.inl r))) : False := by
  unfold am_x_bipush at h
  try unfold am_go at h
  repeat' split at h
  all_goals cases h
theorem am_r_sipush {X : am_X} {q : am_I} {i : Nat} {ls st : List Value} {S : am_S} {r : Option Value × am_S} (h : am_x_sipush X q i ls st S = some (.inr (.inl r))) : False := by
  unfold am_x_sipush at h
  try unfold am_go at h
  repeat' split at h
  all_goals cases h
theorem am_r_ldc {X : am_X} {q : am_I} {i : Nat} {ls st : List Value} {S : am_S} {r : Option Value × am_S} (h : am_x_ldc X q i ls st S = some (.inr (.inl r))) : False := by
  unfold am_x_ldc at h
  try unfold am_go at h
  repeat' split at h
  all_goals cases h
theorem am_r_ldcw {X : am_X} {q : am_I} {i : Nat} {ls st : List Value} {S : am_S} {r : Option Value × am_S} (h : am_x_ldcw X q i ls st S = some (.inr (.inl r))) : False := by
  unfold am_x_ldcw at h
  try unfold am_go at h
  repeat' split at h
  all_goals cases h
theorem am_r_iload {X : am_X} {q : am_I} {i : Nat} {ls st : List Value} {S : am_S} {r : Option Value × am_S} (h : am_x_iload X q i ls st S = some (.inr (.inl r))) : False := by
  unfold am_x_iload at h
  try unfold am_go at h
  repeat' split at h
  all_goals cases h
theorem am_r_aload {X : am_X} {q : am_I} {i : Nat} {ls st : List Value} {S : am_S} {r : Option Value × am_S} (h : am_x_aload X q i ls st S = some (.inr (.inl r))) : False := by
  unfold am_x_aload at h
  try unfold am_go at h
  repeat' split at h
  all_goals cases h
theorem am_r_lload {X : am_X} {q : am_I} {i : Nat} {ls st : List Value} {S : am_S} {r : Option Value × am_S} (h : am_x_lload X q i ls st S = some (.inr (.inl r))) : False := by
  unfold am_x_lload at h
  try unfold am_go at h
  repeat' split at h
  all_goals cases h
theorem am_r_istore {X : am_X} {q : am_I} {i : Nat} {ls st : List Value} {S : am_S} {r : Option Value × am_S} (h : am_x_istore X q i ls st S = some (.inr (.inl r))) : False := by
  unfold am_x_istore at h
  try unfold am_go at h
  repeat' split at h
  all_goals cases h
theorem am_r_astore {X : am_X} {q : am_I} {i : Nat} {ls st : List Value} {S : am_S} {r : Option Value × am_S} (h : am_x_astore X q i ls st S = some (.inr (.inl r))) : False := by
  unfold am_x_astore at h
  try unfold am_go at h
  repeat' split at h
  all_goals cases h
theorem am_r_lstore {X : am_X} {q : am_I} {i : Nat} {ls st : List Value} {S : am_S} {r : Option Value × am_S} (h : am_x_lstore X q i ls st S = some (.inr (.inl r))) : False := by
  unfold am_x_lstore at h
  try unfold am_go at h
  repeat' split at h
  all_goals cases h
theorem am_r_iinc {X : am_X} {q : am_I} {i : Nat} {ls st : List Value} {S : am_S} {r : Option Value × am_S} (h : am_x_iinc X q i ls st S = some (.inr (.inl r))) : False := by
  unfold am_x_iinc at h
  try unfold am_go at h
  repeat' split at h
  all_goals cases h
theorem am_r_iadd {X : am_X} {q : am_I} {i : Nat} {ls st : List Value} {S : am_S} {r : Option Value × am_S} (h : am_x_iadd X q i ls st S = some (.inr (.inl r))) : False := by
  unfold am_x_iadd at h
  try unfold am_go at h
  repeat' split at h
  all_goals cases h
theorem am_r_isub {X : am_X} {q : am_I} {i : Nat} {ls st : List Value} {S : am_S} {r : Option Value × am_S} (h : am_x_isub X q i ls st S = some (.inr (.inl r))) : False := by
  unfold am_x_isub at h
  try unfold am_go at h
  repeat' split at h
  all_goals cases h
theorem am_r_imul {X : am_X} {q : am_I} {i : Nat} {ls st : List Value} {S : am_S} {r : Option Value × am_S} (h : am_x_imul X q i ls st S = some (.inr (.inl r))) : False := by
  unfold am_x_imul at h
  try unfold am_go at h
  repeat' split at h
  all_goals cases h
theorem am_r_iand {X : am_X} {q : am_I} {i : Nat} {ls st : List Value} {S : am_S} {r : Option Value × am_S} (h : am_x_iand X q i ls st S = some (.inr (.inl r))) : False := by
  unfold am_x_iand at h
  try unfold am_go at h
  repeat' split at h
  all_goals cases h
theorem am_r_ior {X : am_X} {q : am_I} {i : Nat} {ls st : List Value} {S : am_S} {r : Option Value × am_S} (h : am_x_ior X q i ls st S = some (.inr (.inl r))) : False := by
  unfold am_x_ior at h
  try unfold am_go at h
  repeat' split at h
  all_goals cases h
theorem am_r_ixor {X : am_X} {q : am_I} {i : Nat} {ls st : List Value} {S : am_S} {r : Option Value × am_S} (h : am_x_ixor X q i ls st S = some (.inr (.inl r))) : False := by
  unfold am_x_ixor at h
  try unfold am_go at h
  repeat' split at h
  all_goals cases h
theorem am_r_ishl {X : am_X} {q : am_I} {i : Nat} {ls st : List Value} {S : am_S} {r : Option Value × am_S} (h : am_x_ishl X q i ls st S = some (.inr (.inl r))) : False := by
  unfold am_x_ishl at h
  try unfold am_go at h
  repeat' split at h
  all_goals cases h
theorem am_r_ishr {X : am_X} {q : am_I} {i : Nat} {ls st : List Value} {S : am_S} {r : Option Value × am_S} (h : am_x_ishr X q i ls st S = some (.inr (.inl r))) : False := by
  unfold am_x_ishr at h
  try unfold am_go at h
  repeat' split at h
  all_goals cases h
theorem am_r_iushr {X : am_X} {q : am_I} {i : Nat} {ls st : List Value} {S : am_S} {r : Option Value × am_S} (h : am_x_iushr X q i ls st S = some (.inr (.inl r))) : False := by
  unfold am_x_iushr at h
  try unfold am_go at h
  repeat' split at h
  all_goals cases h
theorem am_r_ineg {X : am_X} {q : am_I} {i : Nat} {ls st : List Value} {S : am_S} {r : Option Value × am_S} (h : am_x_ineg X q i ls st S = some (.inr (.inl r))) : False := by
  unfold am_x_ineg at h
  try unfold am_go at h
  repeat' split at h
  all_goals cases h
theorem am_r_idiv {X : am_X} {q : am_I} {i : Nat} {ls st : List Value} {S : am_S} {r : Option Value × am_S} (h : am_x_idiv X q i ls st S = some (.inr (.inl r))) : False := by
  unfold am_x_idiv at h
  try unfold am_go at h
  repeat' split at h
  all_goals cases h
theorem am_r_irem {X : am_X} {q : am_I} {i : Nat} {ls st : List Value} {S : am_S} {r : Option Value × am_S} (h : am_x_irem X q i ls st S = some (.inr (.inl r))) : False := by
  unfold am_x_irem at h
  try unfold am_go at h
  repeat' split at h
  all_goals cases h
theorem am_r_ladd {X : am_X} {q : am_I} {i : Nat} {ls st : List Value} {S : am_S} {r : Option Value × am_S} (h : am_x_ladd X q i ls st S = some (.inr (.inl r))) : False := by
  unfold am_x_ladd at h
  try unfold am_go at h
  repeat' split at h
  all_goals cases h
theorem am_r_lsub {X : am_X} {q : am_I} {i : Nat} {ls st : List Value} {S : am_S} {r : Option Value × am_S} (h : am_x_lsub X q i ls st S = some (.inr (.inl r))) : False := by
  unfold am_x_lsub at h
  try unfold am_go at h
  repeat' split at h
  all_goals cases h
theorem am_r_lmul {X : am_X} {q : am_I} {i : Nat} {ls st : List Value} {S : am_S} {r : Option Value × am_S} (h : am_x_lmul X q i ls st S = some (.inr (.inl r))) : False := by
  unfold am_x_lmul at h
  try unfold am_go at h
  repeat' split at h
  all_goals cases h
theorem am_r_land {X : am_X} {q : am_I} {i : Nat} {ls st : List Value} {S : am_S} {r : Option Value × am_S} (h : am_x_land X q i ls st S = some (.inr (.inl r))) : False := by
  unfold am_x_land at h
  try unfold am_go at h
  repeat' split at h
  all_goals cases h
theorem am_r_lor {X : am_X} {q : am_I} {i : Nat} {ls st : List Value} {S : am_S} {r : Option Value × am_S} (h : am_x_lor X q i ls st S = some (.inr (.inl r))) : False := by
  unfold am_x_lor at h
  try unfold am_go at h
  repeat' split at h
  all_goals cases h
theorem am_r_lshl {X : am_X} {q : am_I} {i : Nat} {ls st : List Value} {S : am_S} {r : Option Value × am_S} (h : am_x_lshl X q i ls st S = some (.inr (.inl r))) : False := by
  unfold am_x_lshl at h
  try unfold am_go at h
  repeat' split at h
  all_goals cases h
theorem am_r_lushr {X : am_X} {q : am_I} {i : Nat} {ls st : List Value} {S : am_S} {r : Option Value × am_S} (h : am_x_lushr X q i ls st S = some (.inr (.inl r))) : False := by
  unfold am_x_lushr at h
  try unfold am_go at h
  repeat' split at h
  all_goals cases h
theorem am_r_lrem {X : am_X} {q : am_I} {i : Nat} {ls st : List Value} {S : am_S} {r : Option Value × am_S} (h : am_x_lrem X q i ls st S = some (.inr (.inl r))) : False := by
  unfold am_x_lrem at h
  try unfold am_go at h
  repeat' split at h
  all_goals cases h
theorem am_r_i2l {X : am_X} {q : am_I} {i : Nat} {ls st : List Value} {S : am_S} {r : Option Value × am_S} (h : am_x_i2l X q i ls st S = some (.inr (.inl r))) : False := by
  unfold am_x_i2l at h
  try unfold am_go at h
  repeat' split at h
  all_goals cases h
theorem am_r_l2i {X : am_X} {q : am_I} {i : Nat} {ls st : List Value} {S : am_S} {r : Option Value × am_S} (h : am_x_l2i X q i ls st S = some (.inr (.inl r))) : False := by
  unfold am_x_l2i at h
  try unfold am_go at h
  repeat' split at h
  all_goals cases h
theorem am_r_i2c {X : am_X} {q : am_I} {i : Nat} {ls st : List Value} {S : am_S} {r : Option Value × am_S} (h : am_x_i2c X q i ls st S = some (.inr (.inl r))) : False := by
  unfold am_x_i2c at h
  try unfold am_go at h
  repeat' split at h
  all_goals cases h
theorem am_r_lconst {X : am_X} {q : am_I} {i : Nat} {ls st : List Value} {S : am_S} {r : Option Value × am_S} (h : am_x_lconst X q i ls st S = some (.inr (.inl r))) : False := by
  unfold am_x_lconst at h
  try unfold am_go at h
  repeat' split at h
  all_goals cases h
theorem am_r_ldc2 {X : am_X} {q : am_I} {i : Nat} {ls st : List Value} {S : am_S} {r : Option Value × am_S} (h : am_x_ldc2 X q i ls st S = some (.inr (.inl r))) : False := by
  unfold am_x_ldc2 at h
  try unfold am_go at h
  repeat' split at h
  all_goals cases h
theorem am_r_dup {X : am_X} {q : am_I} {i : Nat} {ls st : List Value} {S : am_S} {r : Option Value × am_S} (h : am_x_dup X q i ls st S = some (.inr (.inl r))) : False := by
  unfold am_x_dup at h
  try unfold am_go at h
  repeat' split at h
  all_goals cases h
theorem am_r_pop {X : am_X} {q : am_I} {i : Nat} {ls st : List Value} {S : am_S} {r : Option Value × am_S} (h : am_x_pop X q i ls st S = some (.inr (.inl r))) : False := by
  unfold am_x_pop at h
  try unfold am_go at h
  repeat' split at h
  all_goals cases h
theorem am_r_dup2 {X : am_X} {q : am_I} {i : Nat} {ls st : List Value} {S : am_S} {r : Option Value × am_S} (h : am_x_dup2 X q i ls st S = some (.inr (.inl r))) : False := by
  unfold am_x_dup2 at h
  try unfold am_go at h
  repeat' split at h
  all_goals cases h
theorem am_r_ifc {X : am_X} {q : am_I} {i : Nat} {ls st : List Value} {S : am_S} {r : Option Value × am_S} (h : am_x_ifc X q i ls st S = some (.inr (.inl r))) : False := by
  unfold am_x_ifc at h
  try unfold am_go at h
  repeat' split at h
  all_goals cases h
theorem am_r_icmp {X : am_X} {q : am_I} {i : Nat} {ls st : List Value} {S : am_S} {r : Option Value × am_S} (h : am_x_icmp X q i ls st S = some (.inr (.inl r))) : False := by
  unfold am_x_icmp at h
  try unfold am_go at h
  repeat' split at h
  all_goals cases h
theorem am_r_goto {X : am_X} {q : am_I} {i : Nat} {ls st : List Value} {S : am_S} {r : Option Value × am_S} (h : am_x_goto X q i ls st S = some (.inr (.inl r))) : False := by
  unfold am_x_goto at h
  try unfold am_go at h
  repeat' split at h
  all_goals cases h
theorem am_r_tsw {X : am_X} {q : am_I} {i : Nat} {ls st : List Value} {S : am_S} {r : Option Value × am_S} (h : am_x_tsw X q i ls st S = some (.inr (.inl r))) : False := by
  unfold am_x_tsw at h
  try unfold am_go at h
  repeat' split at h
  all_goals cases h
theorem am_r_getf {X : am_X} {q : am_I} {i : Nat} {ls st : List Value} {S : am_S} {r : Option Value × am_S} (h : am_x_getf X q i ls st S = some (.inr (.inl r))) : False := by
  unfold am_x_getf at h
  try unfold am_go at h
  repeat' split at h
  all_goals cases h
theorem am_r_putf {X : am_X} {q : am_I} {i : Nat} {ls st : List Value} {S : am_S} {r : Option Value × am_S} (h : am_x_putf X q i ls st S = some (.inr (.inl r))) : False := by
  unfold am_x_putf at h
  try unfold am_go at h
  repeat' split at h
  all_goals cases h
theorem am_r_putr {X : am_X} {q : am_I} {i : Nat} {ls st : List Value} {S : am_S} {r : Option Value × am_S} (h : am_x_putr X q i ls st S = some (.inr (.inl r))) : False := by
  unfold am_x_putr at h
  try unfold am_go at h
  repeat' split at h
  all_goals cases h
theorem am_r_iald {X : am_X} {q : am_I} {i : Nat} {ls st : List Value} {S : am_S} {r : Option Value × am_S} (h : am_x_iald X q i ls st S = some (.inr (.inl r))) : False := by
  unfold am_x_iald at h
  try unfold am_go at h
  repeat' split at h
  all_goals cases h
theorem am_r_iast {X : am_X} {q : am_I} {i : Nat} {ls st : List Value} {S : am_S} {r : Option Value × am_S} (h : am_x_iast X q i ls st S = some (.inr (.inl r))) : False := by
  unfold am_x_iast at h
  try unfold am_go at h
  repeat' split at h
  all_goals cases h
theorem am_r_zald {X : am_X} {q : am_I} {i : Nat} {ls st : List Value} {S : am_S} {r : Option Value × am_S} (h : am_x_zald X q i ls st S = some (.inr (.inl r))) : False := by
  unfold am_x_zald at h
  try unfold am_go at h
  repeat' split at h
  all_goals cases h
theorem am_r_zast {X : am_X} {q : am_I} {i : Nat} {ls st : List Value} {S : am_S} {r : Option Value × am_S} (h : am_x_zast X q i ls st S = some (.inr (.inl r))) : False := by
  unfold am_x_zast at h
  try unfold am_go at h
  repeat' split at h
  all_goals cases h
theorem am_r_lald {X : am_X} {q : am_I} {i : Nat} {ls st : List Value} {S : am_S} {r : Option Value × am_S} (h : am_x_lald X q i ls st S = some (.inr (.inl r))) : False := by
  unfold am_x_lald at h
  try unfold am_go at h
  repeat' split at h
  all_goals cases h
theorem am_r_last {X : am_X} {q : am_I} {i : Nat} {ls st : List Value} {S : am_S} {r : Option Value × am_S} (h : am_x_last X q i ls st S = some (.inr (.inl r))) : False := by
  unfold am_x_last at h
  try unfold am_go at h
  repeat' split at h
  all_goals cases h
theorem am_r_aald {X : am_X} {q : am_I} {i : Nat} {ls st : List Value} {S : am_S} {r : Option Value × am_S} (h : am_x_aald X q i ls st S = some (.inr (.inl r))) : False := by
  unfold am_x_aald at h
  try unfold am_go at h
  repeat' split at h
  all_goals cases h
theorem am_r_aast {X : am_X} {q : am_I} {i : Nat} {ls st : List Value} {S : am_S} {r : Option Value × am_S} (h : am_x_aast X q i ls st S = some (.inr (.inl r))) : False := by
  unfold am_x_aast at h
  try unfold am_go at h
  repeat' split at h
  all_goals cases h
theorem am_r_alen {X : am_X} {q : am_I} {i : Nat} {ls st : List Value} {S : am_S} {r : Option Value × am_S} (h : am_x_alen X q i ls st S = some (.inr (.inl r))) : False := by
  unfold am_x_alen at h
  try unfold am_go at h
  repeat' split at h
  all_goals cases h
theorem am_r_gets {X : am_X} {q : am_I} {i : Nat} {ls st : List Value} {S : am_S} {r : Option Value × am_S} (h : am_x_gets X q i ls st S = some (.inr (.inl r))) : False := by
  unfold am_x_gets at h
  try unfold am_go at h
  repeat' split at h
  all_goals cases h
theorem am_r_gets_of_text {X : am_X} {q : am_I} {i : Nat} {ls st : List Value} {S : am_S} {r : Option Value × am_S} (h : am_x_gets_of_text X q i ls st S = some (.inr (.inl r))) : False := by
  unfold am_x_gets_of_text at h
  try unfold am_go at h
  repeat' split at h
  all_goals cases h
theorem am_r_ldcs {X : am_X} {q : am_I} {i : Nat} {ls st : List Value} {S : am_S} {r : Option Value × am_S} (h : am_x_ldcs X q i ls st S = some (.inr (.inl r))) : False := by
  unfold am_x_ldcs at h
  try unfold am_go at h
  repeat' split at h
  all_goals cases h
theorem am_r_invv {X : am_X} {q : am_I} {i : Nat} {ls st : List Value} {S : am_S} {r : Option Value × am_S} (h : am_x_invv X q i ls st S = some (.inr (.inl r))) : False := by
  unfold am_x_invv at h
  try unfold am_go at h
  repeat' split at h
  all_goals cases h
theorem am_r_invs {X : am_X} {q : am_I} {i : Nat} {ls st : List Value} {S : am_S} {r : Option Value × am_S} (h : am_x_invs X q i ls st S = some (.inr (.inl r))) : False := by
  unfold am_x_invs at h
  try unfold am_go at h
  repeat' split at h
  all_goals cases h
theorem am_r_invi {X : am_X} {q : am_I} {i : Nat} {ls st : List Value} {S : am_S} {r : Option Value × am_S} (h : am_x_invi X q i ls st S = some (.inr (.inl r))) : False := by
  unfold am_x_invi at h
  try unfold am_go at h
  repeat' split at h
  all_goals cases h
theorem am_r_invn {X : am_X} {q : am_I} {i : Nat} {ls st : List Value} {S : am_S} {r : Option Value × am_S} (h : am_x_invn X q i ls st S = some (.inr (.inl r))) : False := by
  unfold am_x_invn at h
  try unfold am_go at h
  repeat' split at h
  all_goals cases h
theorem am_r_invt {X : am_X} {q : am_I} {i : Nat} {ls st : List Value} {S : am_S} {r : Option Value × am_S} (h : am_x_invt X q i ls st S = some (.inr (.inl r))) : False := by
  unfold am_x_invt at h
  try unfold am_go at h
  repeat' split at h
  all_goals cases h
theorem am_r_oini {X : am_X} {q : am_I} {i : Nat} {ls st : List Value} {S : am_S} {r : Option Value × am_S} (h : am_x_oini X q i ls st S = some (.inr (.inl r))) : False := by
  unfold am_x_oini at h
  try unfold am_go at h
  repeat' split at h
  all_goals cases h
theorem am_r_new {X : am_X} {q : am_I} {i : Nat} {ls st : List Value} {S : am_S} {r : Option Value × am_S} (h : am_x_new X q i ls st S = some (.inr (.inl r))) : False := by
  unfold am_x_new at h
  try unfold am_go at h
  repeat' split at h
  all_goals cases h
theorem am_r_newa {X : am_X} {q : am_I} {i : Nat} {ls st : List Value} {S : am_S} {r : Option Value × am_S} (h : am_x_newa X q i ls st S = some (.inr (.inl r))) : False := by
  unfold am_x_newa at h
  try unfold am_go at h
  repeat' split at h
  all_goals cases h
theorem am_r_anew {X : am_X} {q : am_I} {i : Nat} {ls st : List Value} {S : am_S} {r : Option Value × am_S} (h : am_x_anew X q i ls st S = some (.inr (.inl r))) : False := by
  unfold am_x_anew at h
  try unfold am_go at h
  repeat' split at h
  all_goals cases h
theorem am_r_mnew {X : am_X} {q : am_I} {i : Nat} {ls st : List Value} {S : am_S} {r : Option Value × am_S} (h : am_x_mnew X q i ls st S = some (.inr (.inl r))) : False := by
  unfold am_x_mnew at h
  try unfold am_go at h
  repeat' split at h
  all_goals cases h
theorem am_r_acpy {X : am_X} {q : am_I} {i : Nat} {ls st : List Value} {S : am_S} {r : Option Value × am_S} (h : am_x_acpy X q i ls st S = some (.inr (.inl r))) : False := by
  unfold am_x_acpy at h
  try unfold am_go at h
  repeat' split at h
  all_goals cases h
theorem am_r_iret {X : am_X} {q : am_I} {i : Nat} {ls st : List Value} {S : am_S} {r : Option Value × am_S} (h : am_x_iret X q i ls st S = some (.inr (.inl r))) : r.2 = S ∧ st = r.1.toList := by
  unfold am_x_iret at h
  repeat' split at h
  all_goals (cases h <;> exact ⟨rfl, rfl⟩)
theorem am_r_lret {X : am_X} {q : am_I} {i : Nat} {ls st : List Value} {S : am_S} {r : Option Value × am_S} (h : am_x_lret X q i ls st S = some (.inr (.inl r))) : r.2 = S ∧ st = r.1.toList := by
  unfold am_x_lret at h
  repeat' split at h
  all_goals (cases h <;> exact ⟨rfl, rfl⟩)
theorem am_r_aret {X : am_X} {q : am_I} {i : Nat} {ls st : List Value} {S : am_S} {r : Option Value × am_S} (h : am_x_aret X q i ls st S = some (.inr (.inl r))) : r.2 = S ∧ st = r.1.toList := by
  unfold am_x_aret at h
  repeat' split at h
  all_goals (cases h <;> exact ⟨rfl, rfl⟩)
theorem am_r_vret {X : am_X} {q : am_I} {i : Nat} {ls st : List Value} {S : am_S} {r : Option Value × am_S} (h : am_x_vret X q i ls st S = some (.inr (.inl r))) : r.2 = S ∧ st = r.1.toList := by
  unfold am_x_vret at h
  repeat' split at h
  all_goals (cases h <;> exact ⟨rfl, rfl⟩)
theorem am_ret_of {X : am_X} {q : am_I} {i : Nat} {ls st : List Value} {S : am_S} {r : Option Value × am_S} (h : am_step X q i ls st S = some (.inr (.inl r))) : r.2 = S ∧ st = r.1.toList ∧ 71 ≤ q.1 ∧ q.1 ≤ 74 := by
  unfold am_step at h
  by_cases h0 : q.1 = 0
  · rw [if_pos h0] at h
    exact absurd h (fun z => am_r_iconst z)
  rw [if_neg h0] at h
  by_cases h1 : q.1 = 1
  · rw [if_pos h1] at h
    exact absurd h (fun z => am_r_bipush z)
  rw [if_neg h1] at h
  by_cases h2 : q.1 = 2
  · rw [if_pos h2] at h
    exact absurd h (fun z => am_r_sipush z)
  rw [if_neg h2] at h
  by_cases h3 : q.1 = 3
  · rw [if_pos h3] at h
    exact absurd h (fun z => am_r_ldc z)
  rw [if_neg h3] at h
  by_cases h4 : q.1 = 4
  · rw [if_pos h4] at h
    exact absurd h (fun z => am_r_ldcw z)
  rw [if_neg h4] at h
  by_cases h5 : q.1 = 5
  · rw [if_pos h5] at h
    exact absurd h (fun z => am_r_iload z)
  rw [if_neg h5] at h
  by_cases h6 : q.1 = 6
  · rw [if_pos h6] at h
    exact absurd h (fun z => am_r_aload z)
  rw [if_neg h6] at h
  by_cases h7 : q.1 = 7
  · rw [if_pos h7] at h
    exact absurd h (fun z => am_r_lload z)
  rw [if_neg h7] at h
  by_cases h8 : q.1 = 8
  · rw [if_pos h8] at h
    exact absurd h (fun z => am_r_istore z)
  rw [if_neg h8] at h
  by_cases h9 : q.1 = 9
  · rw [if_pos h9] at h
    exact absurd h (fun z => am_r_astore z)
  rw [if_neg h9] at h
  by_cases h10 : q.1 = 10
  · rw [if_pos h10] at h
    exact absurd h (fun z => am_r_lstore z)
  rw [if_neg h10] at h
  by_cases h11 : q.1 = 11
  · rw [if_pos h11] at h
    exact absurd h (fun z => am_r_iinc z)
  rw [if_neg h11] at h
  by_cases h12 : q.1 = 12
  · rw [if_pos h12] at h
    exact absurd h (fun z => am_r_iadd z)
  rw [if_neg h12] at h
  by_cases h13 : q.1 = 13
  · rw [if_pos h13] at h
    exact absurd h (fun z => am_r_isub z)
  rw [if_neg h13] at h
  by_cases h14 : q.1 = 14
  · rw [if_pos h14] at h
    exact absurd h (fun z => am_r_imul z)
  rw [if_neg h14] at h
  by_cases h15 : q.1 = 15
  · rw [if_pos h15] at h
    exact absurd h (fun z => am_r_iand z)
  rw [if_neg h15] at h
  by_cases h16 : q.1 = 16
  · rw [if_pos h16] at h
    exact absurd h (fun z => am_r_ior z)
  rw [if_neg h16] at h
  by_cases h17 : q.1 = 17
  · rw [if_pos h17] at h
    exact absurd h (fun z => am_r_ixor z)
  rw [if_neg h17] at h
  by_cases h18 : q.1 = 18
  · rw [if_pos h18] at h
    exact absurd h (fun z => am_r_ishl z)
  rw [if_neg h18] at h
  by_cases h19 : q.1 = 19
  · rw [if_pos h19] at h
    exact absurd h (fun z => am_r_ishr z)
  rw [if_neg h19] at h
  by_cases h20 : q.1 = 20
  · rw [if_pos h20] at h
    exact absurd h (fun z => am_r_iushr z)
  rw [if_neg h20] at h
  by_cases h21 : q.1 = 21
  · rw [if_pos h21] at h
    exact absurd h (fun z => am_r_ineg z)
  rw [if_neg h21] at h
  by_cases h22 : q.1 = 22
  · rw [if_pos h22] at h
    exact absurd h (fun z => am_r_idiv z)
  rw [if_neg h22] at h
  by_cases h23 : q.1 = 23
  · rw [if_pos h23] at h
    exact absurd h (fun z => am_r_irem z)
  rw [if_neg h23] at h
  by_cases h24 : q.1 = 24
  · rw [if_pos h24] at h
    exact absurd h (fun z => am_r_ladd z)
  rw [if_neg h24] at h
  by_cases h25 : q.1 = 25
  · rw [if_pos h25] at h
    exact absurd h (fun z => am_r_lsub z)
  rw [if_neg h25] at h
  by_cases h26 : q.1 = 26
  · rw [if_pos h26] at h
    exact absurd h (fun z => am_r_lmul z)
  rw [if_neg h26] at h
  by_cases h27 : q.1 = 27
  · rw [if_pos h27] at h
    exact absurd h (fun z => am_r_land z)
  rw [if_neg h27] at h
  by_cases h28 : q.1 = 28
  · rw [if_pos h28] at h
    exact absurd h (fun z => am_r_lor z)
  rw [if_neg h28] at h
  by_cases h29 : q.1 = 29
  · rw [if_pos h29] at h
    exact absurd h (fun z => am_r_lshl z)
  rw [if_neg h29] at h
  by_cases h30 : q.1 = 30
  · rw [if_pos h30] at h
    exact absurd h (fun z => am_r_lushr z)
  rw [if_neg h30] at h
  by_cases h31 : q.1 = 31
  · rw [if_pos h31] at h
    exact absurd h (fun z => am_r_lrem z)
  rw [if_neg h31] at h
  by_cases h32 : q.1 = 32
  · rw [if_pos h32] at h
    exact absurd h (fun z => am_r_i2l z)
  rw [if_neg h32] at h
  by_cases h33 : q.1 = 33
  · rw [if_pos h33] at h
    exact absurd h (fun z => am_r_l2i z)
  rw [if_neg h33] at h
  by_cases h34 : q.1 = 34
  · rw [if_pos h34] at h
    exact absurd h (fun z => am_r_i2c z)
  rw [if_neg h34] at h
  by_cases h35 : q.1 = 35
  · rw [if_pos h35] at h
    exact absurd h (fun z => am_r_lconst z)
  rw [if_neg h35] at h
  by_cases h36 : q.1 = 36
  · rw [if_pos h36] at h
    exact absurd h (fun z => am_r_ldc2 z)
  rw [if_neg h36] at h
  by_cases h37 : q.1 = 37
  · rw [if_pos h37] at h
    exact absurd h (fun z => am_r_dup z)
  rw [if_neg h37] at h
  by_cases h38 : q.1 = 38
  · rw [if_pos h38] at h
    exact absurd h (fun z => am_r_pop z)
  rw [if_neg h38] at h
  by_cases h39 : q.1 = 39
  · rw [if_pos h39] at h
    exact absurd h (fun z => am_r_dup2 z)
  rw [if_neg h39] at h
  by_cases h40 : q.1 = 40
  · rw [if_pos h40] at h
    exact absurd h (fun z => am_r_ifc z)
  rw [if_neg h40] at h
  by_cases h41 : q.1 = 41
  · rw [if_pos h41] at h
    exact absurd h (fun z => am_r_icmp z)
  rw [if_neg h41] at h
  by_cases h42 : q.1 = 42
  · rw [if_pos h42] at h
    exact absurd h (fun z => am_r_goto z)
  rw [if_neg h42] at h
  by_cases h43 : q.1 = 43
  · rw [if_pos h43] at h
    exact absurd h (fun z => am_r_tsw z)
  rw [if_neg h43] at h
  by_cases h44 : q.1 = 44
  · rw [if_pos h44] at h
    exact absurd h (fun z => am_r_getf z)
  rw [if_neg h44] at h
  by_cases h45 : q.1 = 45
  · rw [if_pos h45] at h
    exact absurd h (fun z => am_r_putf z)
  rw [if_neg h45] at h
  by_cases h46 : q.1 = 46
  · rw [if_pos h46] at h
    exact absurd h (fun z => am_r_putr z)
  rw [if_neg h46] at h
  by_cases h47 : q.1 = 47
  · rw [if_pos h47] at h
    exact absurd h (fun z => am_r_iald z)
  rw [if_neg h47] at h
  by_cases h48 : q.1 = 48
  · rw [if_pos h48] at h
    exact absurd h (fun z => am_r_iast z)
  rw [if_neg h48] at h
  by_cases h49 : q.1 = 49
  · rw [if_pos h49] at h
    exact absurd h (fun z => am_r_zald z)
  rw [if_neg h49] at h
  by_cases h50 : q.1 = 50
  · rw [if_pos h50] at h
    exact absurd h (fun z => am_r_zast z)
  rw [if_neg h50] at h
  by_cases h51 : q.1 = 51
  · rw [if_pos h51] at h
    exact absurd h (fun z => am_r_lald z)
  rw [if_neg h51] at h
  by_cases h52 : q.1 = 52
  · rw [if_pos h52] at h
    exact absurd h (fun z => am_r_last z)
  rw [if_neg h52] at h
  by_cases h53 : q.1 = 53
  · rw [if_pos h53] at h
    exact absurd h (fun z => am_r_aald z)
  rw [if_neg h53] at h
  by_cases h54 : q.1 = 54
  · rw [if_pos h54] at h
    exact absurd h (fun z => am_r_aast z)
  rw [if_neg h54] at h
  by_cases h55 : q.1 = 55
  · rw [if_pos h55] at h
    exact absurd h (fun z => am_r_alen z)
  rw [if_neg h55] at h
  by_cases h56 : q.1 = 56
  · rw [if_pos h56] at h
    exact absurd h (fun z => am_r_gets z)
  rw [if_neg h56] at h
  by_cases h57 : q.1 = 57
  · rw [if_pos h57] at h
    exact absurd h (fun z => am_r_gets_of_text z)
  rw [if_neg h57] at h
  by_cases h58 : q.1 = 58
  · rw [if_pos h58] at h
    exact absurd h (fun z => am_r_ldcs z)
  rw [if_neg h58] at h
  by_cases h60 : q.1 = 60
  · rw [if_pos h60] at h
    exact absurd h (fun z => am_r_invv z)
  rw [if_neg h60] at h
  by_cases h61 : q.1 = 61
  · rw [if_pos h61] at h
    exact absurd h (fun z => am_r_invs z)
  rw [if_neg h61] at h
  by_cases h62 : q.1 = 62
  · rw [if_pos h62] at h
    exact absurd h (fun z => am_r_invi z)
  rw [if_neg h62] at h
  by_cases h63 : q.1 = 63
  · rw [if_pos h63] at h
    exact absurd h (fun z => am_r_invn z)
  rw [if_neg h63] at h
  by_cases h64 : q.1 = 64
  · rw [if_pos h64] at h
    exact absurd h (fun z => am_r_invt z)
  rw [if_neg h64] at h
  by_cases h65 : q.1 = 65
  · rw [if_pos h65] at h
    exact absurd h (fun z => am_r_oini z)
  rw [if_neg h65] at h
  by_cases h66 : q.1 = 66
  · rw [if_pos h66] at h
    exact absurd h (fun z => am_r_new z)
  rw [if_neg h66] at h
  by_cases h67 : q.1 = 67
  · rw [if_pos h67] at h
    exact absurd h (fun z => am_r_newa z)
  rw [if_neg h67] at h
  by_cases h68 : q.1 = 68
  · rw [if_pos h68] at h
    exact absurd h (fun z => am_r_anew z)
  rw [if_neg h68] at h
  by_cases h69 : q.1 = 69
  · rw [if_pos h69] at h
    exact absurd h (fun z => am_r_mnew z)
  rw [if_neg h69] at h
  by_cases h70 : q.1 = 70
  · rw [if_pos h70] at h
    exact absurd h (fun z => am_r_acpy z)
  rw [if_neg h70] at h
  by_cases h71 : q.1 = 71
  · rw [if_pos h71] at h
    exact ⟨(am_r_iret h).1, (am_r_iret h).2, by omega, by omega⟩
  rw [if_neg h71] at h
  by_cases h72 : q.1 = 72
  · rw [if_pos h72] at h
    exact ⟨(am_r_lret h).1, (am_r_lret h).2, by omega, by omega⟩
  rw [if_neg h72] at h
  by_cases h73 : q.1 = 73
  · rw [if_pos h73] at h
    exact ⟨(am_r_aret h).1, (am_r_aret h).2, by omega, by omega⟩
  rw [if_neg h73] at h
  by_cases h74 : q.1 = 74
  · rw [if_pos h74] at h
    exact ⟨(am_r_vret h).1, (am_r_vret h).2, by omega, by omega⟩
  rw [if_neg h74] at h
  cases h
theorem am_ret_S {X : am_X} {q : am_I} {i : Nat} {ls st : List Value} {S : am_S} {r : Option Value × am_S} (h : am_step X q i ls st S = some (.inr (.inl r))) : r.2 = S := (am_ret_of h).1
theorem am_run_mono {G : Nat → am_M} {X : am_X} : ∀ (f : Nat) (P : List (Nat × am_I)) (i : Nat) (ls st : List Value) (S : am_S) (v : Option Value) (S' : am_S), am_run G X f P i ls st S = some (v, S') → S.1.1 ≤ S'.1.1 ∧ S.1.2 ≤ S'.1.2 := by
  intro f
  induction f with
  | zero => intro P i ls st S v S' h; simp [am_run] at h
  | succ f ih =>
    intro P i ls st S v S' h
    unfold am_run at h
    split at h
    · cases h
    · rename_i r hr
      split at h
      · cases h
      · rename_i j ls2 st2 S2 hs
        have h1 := am_step_mono hs
        have h2 := ih _ _ _ _ _ _ _ h
        omega
      · rename_i r2 hs
        have h1 := am_ret_S hs
        cases h
        have h2 : S' = S := h1
        rw [h2]
        exact ⟨Nat.le_refl _, Nat.le_refl _⟩
      · rename_i m vs st2 hs
        split at h
        · split at h
          · cases h
          · rename_i v2 S2 hc
            have h1 := ih _ _ _ _ _ _ _ hc
            have h2 := ih _ _ _ _ _ _ _ h
            omega
        · cases h
section AMU
variable {G : Nat → am_M} {X : am_X} {p : Program} {l : Launch} {e : Env} {R : Room} {s : State} {mid : MethodId} {args : Array Value} {below : List Frame} {meth : Method} {c : Code} {Q : State → Prop} {D : va_G} {cid : Nat → ClassId} {b0 n0 t0 : Nat} {sv : Nat → Option Nat} {on : Nat} {mn : String} {cc : ByteArray} {rt : Option FieldType} {fr lo nL : Nat} {P : List (Nat × am_I)} {i j pc : Nat} {q : am_I} {ls st ls' st' : List Value} {S S' : am_S}
theorem am_one (C : am_Cx X p R s mid args meth c D cid b0 n0 sv (am_rn on) mn cc fr lo nL) (hp : P[i]? = some (pc, q)) (hck : am_ck G on mn cc rt fr lo P i pc q = true) (hst : am_step X q i ls st S = some (.inl (j, ls', st', S'))) (hrm : S'.1.1 - n0 ≤ R.cells ∧ S'.1.2 - t0 ≤ R.slots) (kk : am_At p l e R s mid args below meth c Q D cid b0 n0 t0 sv nL P j ls' st' S') : am_At p l e R s mid args below meth c Q D cid b0 n0 t0 sv nL P i ls st S := by
  unfold am_step at hst
  unfold am_ck at hck
  by_cases h0 : q.1 = 0
  · rw [if_pos h0] at hst hck
    exact am_s_iconst C hp hck hst kk
  rw [if_neg h0] at hst hck
  by_cases h1 : q.1 = 1
  · rw [if_pos h1] at hst hck
    exact am_s_bipush C hp hck hst kk
  rw [if_neg h1] at hst hck
  by_cases h2 : q.1 = 2
  · rw [if_pos h2] at hst hck
    exact am_s_sipush C hp hck hst kk
  rw [if_neg h2] at hst hck
  by_cases h3 : q.1 = 3
  · rw [if_pos h3] at hst hck
    exact am_s_ldc C hp hck hst kk
  rw [if_neg h3] at hst hck
  by_cases h4 : q.1 = 4
  · rw [if_pos h4] at hst hck
    exact am_s_ldcw C hp hck hst kk
  rw [if_neg h4] at hst hck
  by_cases h5 : q.1 = 5
  · rw [if_pos h5] at hst hck
    exact am_s_iload C hp hck hst kk
  rw [if_neg h5] at hst hck
  by_cases h6 : q.1 = 6
  · rw [if_pos h6] at hst hck
    exact am_s_aload C hp hck hst kk
  rw [if_neg h6] at hst hck
  by_cases h7 : q.1 = 7
  · rw [if_pos h7] at hst hck
    exact am_s_lload C hp hck hst kk
  rw [if_neg h7] at hst hck
  by_cases h8 : q.1 = 8
  · rw [if_pos h8] at hst hck
    exact am_s_istore C hp hck hst kk
  rw [if_neg h8] at hst hck
  by_cases h9 : q.1 = 9
  · rw [if_pos h9] at hst hck
    exact am_s_astore C hp hck hst kk
  rw [if_neg h9] at hst hck
  by_cases h10 : q.1 = 10
  · rw [if_pos h10] at hst hck
    exact am_s_lstore C hp hck hst kk
  rw [if_neg h10] at hst hck
  by_cases h11 : q.1 = 11
  · rw [if_pos h11] at hst hck
    exact am_s_iinc C hp hck hst kk
  rw [if_neg h11] at hst hck
  by_cases h12 : q.1 = 12
  · rw [if_pos h12] at hst hck
    exact am_s_iadd C hp hck hst kk
  rw [if_neg h12] at hst hck
  by_cases h13 : q.1 = 13
  · rw [if_pos h13] at hst hck
    exact am_s_isub C hp hck hst kk
  rw [if_neg h13] at hst hck
  by_cases h14 : q.1 = 14
  · rw [if_pos h14] at hst hck
    exact am_s_imul C hp hck hst kk
  rw [if_neg h14] at hst hck
  by_cases h15 : q.1 = 15
  · rw [if_pos h15] at hst hck
    exact am_s_iand C hp hck hst kk
  rw [if_neg h15] at hst hck
  by_cases h16 : q.1 = 16
  · rw [if_pos h16] at hst hck
    exact am_s_ior C hp hck hst kk
  rw [if_neg h16] at hst hck
  by_cases h17 : q.1 = 17
  · rw [if_pos h17] at hst hck
    exact am_s_ixor C hp hck hst kk
  rw [if_neg h17] at hst hck
  by_cases h18 : q.1 = 18
  · rw [if_pos h18] at hst hck
    exact am_s_ishl C hp hck hst kk
  rw [if_neg h18] at hst hck
  by_cases h19 : q.1 = 19
  · rw [if_pos h19] at hst hck
    exact am_s_ishr C hp hck hst kk
  rw [if_neg h19] at hst hck
  by_cases h20 : q.1 = 20
  · rw [if_pos h20] at hst hck
    exact am_s_iushr C hp hck hst kk
  rw [if_neg h20] at hst hck
  by_cases h21 : q.1 = 21
  · rw [if_pos h21] at hst hck
    exact am_s_ineg C hp hck hst kk
  rw [if_neg h21] at hst hck
  by_cases h22 : q.1 = 22
  · rw [if_pos h22] at hst hck
    exact am_s_idiv C hp hck hst kk
  rw [if_neg h22] at hst hck
  by_cases h23 : q.1 = 23
  · rw [if_pos h23] at hst hck
    exact am_s_irem C hp hck hst kk
  rw [if_neg h23] at hst hck
  by_cases h24 : q.1 = 24
  · rw [if_pos h24] at hst hck
    exact am_s_ladd C hp hck hst kk
  rw [if_neg h24] at hst hck
  by_cases h25 : q.1 = 25
  · rw [if_pos h25] at hst hck
    exact am_s_lsub C hp hck hst kk
  rw [if_neg h25] at hst hck
  by_cases h26 : q.1 = 26
  · rw [if_pos h26] at hst hck
    exact am_s_lmul C hp hck hst kk
  rw [if_neg h26] at hst hck
  by_cases h27 : q.1 = 27
  · rw [if_pos h27] at hst hck
    exact am_s_land C hp hck hst kk
  rw [if_neg h27] at hst hck
  by_cases h28 : q.1 = 28
  · rw [if_pos h28] at hst hck
    exact am_s_lor C hp hck hst kk
  rw [if_neg h28] at hst hck
  by_cases h29 : q.1 = 29
  · rw [if_pos h29] at hst hck
    exact am_s_lshl C hp hck hst kk
  rw [if_neg h29] at hst hck
  by_cases h30 : q.1 = 30
  · rw [if_pos h30] at hst hck
    exact am_s_lushr C hp hck hst kk
  rw [if_neg h30] at hst hck
  by_cases h31 : q.1 = 31
  · rw [if_pos h31] at hst hck
    exact am_s_lrem C hp hck hst kk
  rw [if_neg h31] at hst hck
  by_cases h32 : q.1 = 32
  · rw [if_pos h32] at hst hck
    exact am_s_i2l C hp hck hst kk
  rw [if_neg h32] at hst hck
  by_cases h33 : q.1 = 33
  · rw [if_pos h33] at hst hck
    exact am_s_l2i C hp hck hst kk
  rw [if_neg h33] at hst hck
  by_cases h34 : q.1 = 34
  · rw [if_pos h34] at hst hck
    exact am_s_i2c C hp hck hst kk
  rw [if_neg h34] at hst hck
  by_cases h35 : q.1 = 35
  · rw [if_pos h35] at hst hck
    exact am_s_lconst C hp hck hst kk
  rw [if_neg h35] at hst hck
  by_cases h36 : q.1 = 36
  · rw [if_pos h36] at hst hck
    exact am_s_ldc2 C hp hck hst kk
  rw [if_neg h36] at hst hck
  by_cases h37 : q.1 = 37
  · rw [if_pos h37] at hst hck
    exact am_s_dup C hp hck hst kk
  rw [if_neg h37] at hst hck
  by_cases h38 : q.1 = 38
  · rw [if_pos h38] at hst hck
    exact am_s_pop C hp hck hst kk
  rw [if_neg h38] at hst hck
  by_cases h39 : q.1 = 39
  · rw [if_pos h39] at hst hck
    exact am_s_dup2 C hp hck hst kk
  rw [if_neg h39] at hst hck
  by_cases h40 : q.1 = 40
  · rw [if_pos h40] at hst hck
    exact am_s_ifc C hp hck hst kk
  rw [if_neg h40] at hst hck
  by_cases h41 : q.1 = 41
  · rw [if_pos h41] at hst hck
    exact am_s_icmp C hp hck hst kk
  rw [if_neg h41] at hst hck
  by_cases h42 : q.1 = 42
  · rw [if_pos h42] at hst hck
    exact am_s_goto C hp hck hst kk
  rw [if_neg h42] at hst hck
  by_cases h43 : q.1 = 43
  · rw [if_pos h43] at hst hck
    exact am_s_tsw C hp hck hst kk
  rw [if_neg h43] at hst hck
  by_cases h44 : q.1 = 44
  · rw [if_pos h44] at hst hck
    exact am_s_getf C hp hck hst kk
  rw [if_neg h44] at hst hck
  by_cases h45 : q.1 = 45
  · rw [if_pos h45] at hst hck
    exact am_s_putf C hp hck hst kk
  rw [if_neg h45] at hst hck
  by_cases h46 : q.1 = 46
  · rw [if_pos h46] at hst hck
    exact am_s_putr C hp hck hst kk
  rw [if_neg h46] at hst hck
  by_cases h47 : q.1 = 47
  · rw [if_pos h47] at hst hck
    exact am_s_iald C hp hck hst kk
  rw [if_neg h47] at hst hck
  by_cases h48 : q.1 = 48
  · rw [if_pos h48] at hst hck
    exact am_s_iast C hp hck hst kk
  rw [if_neg h48] at hst hck
  by_cases h49 : q.1 = 49
  · rw [if_pos h49] at hst hck
    exact am_s_zald C hp hck hst kk
  rw [if_neg h49] at hst hck
  by_cases h50 : q.1 = 50
  · rw [if_pos h50] at hst hck
    exact am_s_zast C hp hck hst kk
  rw [if_neg h50] at hst hck
  by_cases h51 : q.1 = 51
  · rw [if_pos h51] at hst hck
    exact am_s_lald C hp hck hst kk
  rw [if_neg h51] at hst hck
  by_cases h52 : q.1 = 52
  · rw [if_pos h52] at hst hck
    exact am_s_last C hp hck hst kk
  rw [if_neg h52] at hst hck
  by_cases h53 : q.1 = 53
  · rw [if_pos h53] at hst hck
    exact am_s_aald C hp hck hst kk
  rw [if_neg h53] at hst hck
  by_cases h54 : q.1 = 54
  · rw [if_pos h54] at hst hck
    exact am_s_aast C hp hck hst kk
  rw [if_neg h54] at hst hck
  by_cases h55 : q.1 = 55
  · rw [if_pos h55] at hst hck
    exact am_s_alen C hp hck hst kk
  rw [if_neg h55] at hst hck
  by_cases h56 : q.1 = 56
  · rw [if_pos h56] at hst hck
    exact am_s_gets C hp hck hst kk
  rw [if_neg h56] at hst hck
  by_cases h57 : q.1 = 57
  · rw [if_pos h57] at hst hck
    exact am_s_gets_of_text C hp hck hst kk
  rw [if_neg h57] at hst hck
  by_cases h58 : q.1 = 58
  · rw [if_pos h58] at hst hck
    exact am_s_ldcs C hp hck hst kk
  rw [if_neg h58] at hst hck
  by_cases h60 : q.1 = 60
  · rw [if_pos h60] at hst hck
    exact absurd hst (fun z => am_n_invv z)
  rw [if_neg h60] at hst hck
  by_cases h61 : q.1 = 61
  · rw [if_pos h61] at hst hck
    exact absurd hst (fun z => am_n_invs z)
  rw [if_neg h61] at hst hck
  by_cases h62 : q.1 = 62
  · rw [if_pos h62] at hst hck
    exact absurd hst (fun z => am_n_invi z)
  rw [if_neg h62] at hst hck
  by_cases h63 : q.1 = 63
  · rw [if_pos h63] at hst hck
    exact absurd hst (fun z => am_n_invn z)
  rw [if_neg h63] at hst hck
  by_cases h64 : q.1 = 64
  · rw [if_pos h64] at hst hck
    exact absurd hst (fun z => am_n_invt z)
  rw [if_neg h64] at hst hck
  by_cases h65 : q.1 = 65
  · rw [if_pos h65] at hst hck
    exact am_s_oini C hp hck hst kk
  rw [if_neg h65] at hst hck
  by_cases h66 : q.1 = 66
  · rw [if_pos h66] at hst hck
    exact am_s_new C hp hck hst hrm kk
  rw [if_neg h66] at hst hck
  by_cases h67 : q.1 = 67
  · rw [if_pos h67] at hst hck
    exact am_s_newa C hp hck hst hrm kk
  rw [if_neg h67] at hst hck
  by_cases h68 : q.1 = 68
  · rw [if_pos h68] at hst hck
    exact am_s_anew C hp hck hst hrm kk
  rw [if_neg h68] at hst hck
  by_cases h69 : q.1 = 69
  · rw [if_pos h69] at hst hck
    exact am_s_mnew C hp hck hst hrm kk
  rw [if_neg h69] at hst hck
  by_cases h70 : q.1 = 70
  · rw [if_pos h70] at hst hck
    exact am_s_acpy C hp hck hst kk
  rw [if_neg h70] at hst hck
  by_cases h71 : q.1 = 71
  · rw [if_pos h71] at hst hck
    exact absurd hst (fun z => am_n_iret z)
  rw [if_neg h71] at hst hck
  by_cases h72 : q.1 = 72
  · rw [if_pos h72] at hst hck
    exact absurd hst (fun z => am_n_lret z)
  rw [if_neg h72] at hst hck
  by_cases h73 : q.1 = 73
  · rw [if_pos h73] at hst hck
    exact absurd hst (fun z => am_n_aret z)
  rw [if_neg h73] at hst hck
  by_cases h74 : q.1 = 74
  · rw [if_pos h74] at hst hck
    exact absurd hst (fun z => am_n_vret z)
  rw [if_neg h74] at hst hck
  cases hst
end AMU
