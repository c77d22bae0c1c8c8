/-! THE PURE LAYER: a run as an equation. am_ev is what the abstract machine answers from a place (none: it is stuck, or has no end). -/
theorem am_run_le {X : am_X} : ∀ (f : Nat) (P : List (Nat × am_I)) (i : Nat) (ls st : List Value) (S : am_S) (r : Option Value × am_S), am_run am_G X f P i ls st S = some r → am_run am_G X (f + 1) P i ls st S = some r := by
  intro f
  induction f with
  | zero => intro P i ls st S r h; simp [am_run] at h
  | succ f ih =>
    intro P i ls st S r h
    unfold am_run at h ⊢
    split at h
    · cases h
    · rename_i x hx
      try rw [hx]
      try dsimp only
      split at h
      · cases h
      · rename_i j ls2 st2 S2 hs
        try rw [hs]
        exact ih _ _ _ _ _ _ h
      · rename_i r2 hs
        try rw [hs]
        exact h
      · rename_i m vs st2 hs
        try rw [hs]
        try dsimp only
        split at h
        · rename_i hlen
          rw [if_pos hlen]
          split at h
          · cases h
          · rename_i v S2 hc
            rw [ih _ _ _ _ _ _ hc]
            exact ih _ _ _ _ _ _ h
        · cases h
theorem am_run_up {X : am_X} {f g : Nat} {P : List (Nat × am_I)} {i : Nat} {ls st : List Value} {S : am_S} {r : Option Value × am_S} (h : am_run am_G X f P i ls st S = some r) (hfg : f ≤ g) : am_run am_G X g P i ls st S = some r := by
  obtain ⟨k, rfl⟩ := Nat.exists_eq_add_of_le hfg
  clear hfg
  induction k with
  | zero => exact h
  | succ k ih => exact am_run_le _ _ _ _ _ _ _ ih
noncomputable def am_ev (X : am_X) (P : List (Nat × am_I)) (i : Nat) (ls st : List Value) (S : am_S) : Option (Option Value × am_S) :=
  @dite _ (∃ r : Option Value × am_S, ∃ f, am_run am_G X f P i ls st S = some r) (Classical.propDecidable _) (fun h => some (Classical.choose h)) (fun _ => none)
theorem am_ev_iff {X : am_X} {P : List (Nat × am_I)} {i : Nat} {ls st : List Value} {S : am_S} {r : Option Value × am_S} : am_ev X P i ls st S = some r ↔ ∃ f, am_run am_G X f P i ls st S = some r := by
  unfold am_ev
  constructor
  · intro h
    split at h
    · rename_i hx
      obtain ⟨f, hf⟩ := Classical.choose_spec hx
      cases h
      exact ⟨f, hf⟩
    · cases h
  · rintro ⟨f, hf⟩
    rw [dif_pos ⟨r, f, hf⟩]
    have hx : ∃ r : Option Value × am_S, ∃ f, am_run am_G X f P i ls st S = some r := ⟨r, f, hf⟩
    obtain ⟨g, hg⟩ := Classical.choose_spec hx
    have h1 := am_run_up hf (Nat.le_max_left f g)
    have h2 := am_run_up hg (Nat.le_max_right f g)
    exact h2.symm.trans h1
/-- a call -/
noncomputable def am_do (X : am_X) (m : Nat) (vs : List Value) (S : am_S) : Option (Option Value × am_S) := if (am_ini (am_G m) vs).length = (am_G m).2.2.1 then am_ev X (am_G m).2.2.2.2.1 0 (am_ini (am_G m) vs) [] S else none
theorem am_ev_eq (X : am_X) (P : List (Nat × am_I)) (i : Nat) (ls st : List Value) (S : am_S) : am_ev X P i ls st S = (match P[i]? with
    | none => none
    | some r => match am_step X r.2 i ls st S with
      | none => none
      | some (.inl (j, ls', st', S')) => am_ev X P j ls' st' S'
      | some (.inr (.inl r)) => some r
      | some (.inr (.inr (m, vs, st'))) => (am_do X m vs S).bind (fun q => am_ev X P (i + 1) ls (q.1.toList ++ st') q.2)) := by
  apply Option.ext
  intro r
  constructor
  · intro h
    obtain ⟨f, hf⟩ := am_ev_iff.mp h
    cases f with
    | zero => simp [am_run] at hf
    | succ f =>
      unfold am_run at hf
      split at hf
      · cases hf
      · rename_i x hx
        try rw [hx]
        try dsimp only
        split at hf
        · cases hf
        · rename_i j ls2 st2 S2 hs
          try rw [hs]
          exact am_ev_iff.mpr ⟨f, hf⟩
        · rename_i r2 hs
          try rw [hs]
          exact hf
        · rename_i m vs st2 hs
          try rw [hs]
          dsimp only
          split at hf
          · rename_i hlen
            split at hf
            · cases hf
            · rename_i v S2 hc
              unfold am_do
              rw [if_pos hlen, am_ev_iff.mpr ⟨f, hc⟩]
              exact am_ev_iff.mpr ⟨f, hf⟩
          · cases hf
  · intro h
    split at h
    · cases h
    · rename_i x hx
      split at h
      · cases h
      · rename_i j ls2 st2 S2 hs
        obtain ⟨f, hf⟩ := am_ev_iff.mp h
        refine am_ev_iff.mpr ⟨f + 1, ?_⟩
        unfold am_run
        try rw [hx]
        try dsimp only
        try rw [hs]
        exact hf
      · rename_i r2 hs
        refine am_ev_iff.mpr ⟨1, ?_⟩
        unfold am_run
        try rw [hx]
        try dsimp only
        try rw [hs]
        exact h
      · rename_i m vs st2 hs
        obtain ⟨⟨v, S2⟩, h1, h2⟩ := Option.bind_eq_some_iff.mp h
        unfold am_do at h1
        split at h1
        · rename_i hlen
          obtain ⟨f, hf⟩ := am_ev_iff.mp h1
          obtain ⟨g, hg⟩ := am_ev_iff.mp h2
          refine am_ev_iff.mpr ⟨max f g + 1, ?_⟩
          unfold am_run
          rw [hx]
          dsimp only
          try rw [hs]
          dsimp only
          rw [if_pos hlen, am_run_up hf (Nat.le_max_left f g)]
          exact am_run_up hg (Nat.le_max_right f g)
        · cases h1
/-- the law's run, by its equation -/
theorem am_Law_of {L : Nat} {xs : Nat → Int32} {S' : am_S} (h : am_ev (am_Xs L xs) (am_G 362).2.2.2.2.1 0 [.retAddr 2, .null, .null, .null] [] am_S0 = some (some (.int 1), S')) (h1 : S'.1.1 ≤ 600000) (h2 : S'.1.2 ≤ 7302250) : am_Law L xs := by
  obtain ⟨f, hf⟩ := am_ev_iff.mp h
  exact ⟨f, S', hf, h1, h2⟩
/-! an instruction, a row: what a run answers there, by what it answers at the next place -/
noncomputable def am_kt (X : am_X) (P : List (Nat × am_I)) (i : Nat) (ls : List Value) (S : am_S) (o : Option am_R) : Option (Option Value × am_S) := match o with
  | none => none
  | some (.inl (j, ls', st', S')) => am_ev X P j ls' st' S'
  | some (.inr (.inl r)) => some r
  | some (.inr (.inr (m, vs, st'))) => (am_do X m vs S).bind (fun q => am_ev X P (i + 1) ls (q.1.toList ++ st') q.2)
section EV
variable {X : am_X} {P : List (Nat × am_I)} {i pc a b t : Nat} {n : Int} {ts : List Nat} {ls st : List Value} {S : am_S} {I : Nat → Nat → Int32} {J : Nat → Nat → Int64}
theorem ev_at {r : Nat × am_I} (h : P[i]? = some r) : am_ev X P i ls st S = am_kt X P i ls S (am_step X r.2 i ls st S) := by
  rw [am_ev_eq, h]
  rfl
theorem ev_iconst (h : P[i]? = some (pc, 0, a, b, n, ts)) : am_ev X P i ls (st) S = am_ev X P (i + 1) ls (.int (Int32.ofInt n) :: st) S := by
  rw [ev_at h]
  rfl
theorem ev_bipush (h : P[i]? = some (pc, 1, a, b, n, ts)) : am_ev X P i ls (st) S = am_ev X P (i + 1) ls (.int (Int32.ofInt n) :: st) S := by
  rw [ev_at h]
  rfl
theorem ev_sipush (h : P[i]? = some (pc, 2, a, b, n, ts)) : am_ev X P i ls (st) S = am_ev X P (i + 1) ls (.int (Int32.ofInt n) :: st) S := by
  rw [ev_at h]
  rfl
theorem ev_ldc (h : P[i]? = some (pc, 3, a, b, n, ts)) : am_ev X P i ls (st) S = am_ev X P (i + 1) ls (.int (Int32.ofInt n) :: st) S := by
  rw [ev_at h]
  rfl
theorem ev_ldcw (h : P[i]? = some (pc, 4, a, b, n, ts)) : am_ev X P i ls (st) S = am_ev X P (i + 1) ls (.int (Int32.ofInt n) :: st) S := by
  rw [ev_at h]
  rfl
theorem ev_iadd {x y : Int32} (h : P[i]? = some (pc, 12, a, b, n, ts)) : am_ev X P i ls (.int y :: .int x :: st) S = am_ev X P (i + 1) ls (.int (x + y) :: st) S := by
  rw [ev_at h]
  rfl
theorem ev_isub {x y : Int32} (h : P[i]? = some (pc, 13, a, b, n, ts)) : am_ev X P i ls (.int y :: .int x :: st) S = am_ev X P (i + 1) ls (.int (x - y) :: st) S := by
  rw [ev_at h]
  rfl
theorem ev_imul {x y : Int32} (h : P[i]? = some (pc, 14, a, b, n, ts)) : am_ev X P i ls (.int y :: .int x :: st) S = am_ev X P (i + 1) ls (.int (x * y) :: st) S := by
  rw [ev_at h]
  rfl
theorem ev_iand {x y : Int32} (h : P[i]? = some (pc, 15, a, b, n, ts)) : am_ev X P i ls (.int y :: .int x :: st) S = am_ev X P (i + 1) ls (.int (x &&& y) :: st) S := by
  rw [ev_at h]
  rfl
theorem ev_ior {x y : Int32} (h : P[i]? = some (pc, 16, a, b, n, ts)) : am_ev X P i ls (.int y :: .int x :: st) S = am_ev X P (i + 1) ls (.int (x ||| y) :: st) S := by
  rw [ev_at h]
  rfl
theorem ev_ixor {x y : Int32} (h : P[i]? = some (pc, 17, a, b, n, ts)) : am_ev X P i ls (.int y :: .int x :: st) S = am_ev X P (i + 1) ls (.int (x ^^^ y) :: st) S := by
  rw [ev_at h]
  rfl
theorem ev_ishl {x y : Int32} (h : P[i]? = some (pc, 18, a, b, n, ts)) : am_ev X P i ls (.int y :: .int x :: st) S = am_ev X P (i + 1) ls (.int (x <<< (y &&& 31)) :: st) S := by
  rw [ev_at h]
  rfl
theorem ev_ishr {x y : Int32} (h : P[i]? = some (pc, 19, a, b, n, ts)) : am_ev X P i ls (.int y :: .int x :: st) S = am_ev X P (i + 1) ls (.int (x >>> (y &&& 31)) :: st) S := by
  rw [ev_at h]
  rfl
theorem ev_iushr {x y : Int32} (h : P[i]? = some (pc, 20, a, b, n, ts)) : am_ev X P i ls (.int y :: .int x :: st) S = am_ev X P (i + 1) ls (.int ((x.toUInt32 >>> (y.toUInt32 &&& Int32.toUInt32 31)).toInt32) :: st) S := by
  rw [ev_at h]
  rfl
theorem ev_ineg {x : Int32} (h : P[i]? = some (pc, 21, a, b, n, ts)) : am_ev X P i ls (.int x :: st) S = am_ev X P (i + 1) ls (.int (-x) :: st) S := by
  rw [ev_at h]
  rfl
theorem ev_idiv {x y : Int32} (h : P[i]? = some (pc, 22, a, b, n, ts)) : am_ev X P i ls (.int y :: .int x :: st) S = if y = 0 then none else am_ev X P (i + 1) ls (.int (x / y) :: st) S := by
  rw [ev_at h]
  by_cases hy : y = 0
  · rw [if_pos hy]
    have : am_step X (22, a, b, n, ts) i ls (.int y :: .int x :: st) S = none := by
      show (if y = 0 then none else am_go (i + 1) ls (.int (x / y) :: st) S) = none
      rw [if_pos hy]
    rw [this]
    rfl
  · rw [if_neg hy]
    have : am_step X (22, a, b, n, ts) i ls (.int y :: .int x :: st) S = am_go (i + 1) ls (.int (x / y) :: st) S := by
      show (if y = 0 then none else am_go (i + 1) ls (.int (x / y) :: st) S) = _
      rw [if_neg hy]
    rw [this]
    rfl
theorem ev_irem {x y : Int32} (h : P[i]? = some (pc, 23, a, b, n, ts)) : am_ev X P i ls (.int y :: .int x :: st) S = if y = 0 then none else am_ev X P (i + 1) ls (.int (x - x / y * y) :: st) S := by
  rw [ev_at h]
  by_cases hy : y = 0
  · rw [if_pos hy]
    have : am_step X (23, a, b, n, ts) i ls (.int y :: .int x :: st) S = none := by
      show (if y = 0 then none else am_go (i + 1) ls (.int (x - x / y * y) :: st) S) = none
      rw [if_pos hy]
    rw [this]
    rfl
  · rw [if_neg hy]
    have : am_step X (23, a, b, n, ts) i ls (.int y :: .int x :: st) S = am_go (i + 1) ls (.int (x - x / y * y) :: st) S := by
      show (if y = 0 then none else am_go (i + 1) ls (.int (x - x / y * y) :: st) S) = _
      rw [if_neg hy]
    rw [this]
    rfl
theorem ev_ladd {x y : Int64} (h : P[i]? = some (pc, 24, a, b, n, ts)) : am_ev X P i ls (.long y :: .long x :: st) S = am_ev X P (i + 1) ls (.long (x + y) :: st) S := by
  rw [ev_at h]
  rfl
theorem ev_lsub {x y : Int64} (h : P[i]? = some (pc, 25, a, b, n, ts)) : am_ev X P i ls (.long y :: .long x :: st) S = am_ev X P (i + 1) ls (.long (x - y) :: st) S := by
  rw [ev_at h]
  rfl
theorem ev_lmul {x y : Int64} (h : P[i]? = some (pc, 26, a, b, n, ts)) : am_ev X P i ls (.long y :: .long x :: st) S = am_ev X P (i + 1) ls (.long (x * y) :: st) S := by
  rw [ev_at h]
  rfl
theorem ev_land {x y : Int64} (h : P[i]? = some (pc, 27, a, b, n, ts)) : am_ev X P i ls (.long y :: .long x :: st) S = am_ev X P (i + 1) ls (.long (x &&& y) :: st) S := by
  rw [ev_at h]
  rfl
theorem ev_lor {x y : Int64} (h : P[i]? = some (pc, 28, a, b, n, ts)) : am_ev X P i ls (.long y :: .long x :: st) S = am_ev X P (i + 1) ls (.long (x ||| y) :: st) S := by
  rw [ev_at h]
  rfl
theorem ev_lshl {x : Int64} {y : Int32} (h : P[i]? = some (pc, 29, a, b, n, ts)) : am_ev X P i ls (.int y :: .long x :: st) S = am_ev X P (i + 1) ls (.long (x <<< (y.toInt64 &&& 63)) :: st) S := by
  rw [ev_at h]
  rfl
theorem ev_lushr {x : Int64} {y : Int32} (h : P[i]? = some (pc, 30, a, b, n, ts)) : am_ev X P i ls (.int y :: .long x :: st) S = am_ev X P (i + 1) ls (.long ((x.toUInt64 >>> (y.toInt64.toUInt64 &&& Int64.toUInt64 63)).toInt64) :: st) S := by
  rw [ev_at h]
  rfl
theorem ev_lrem {x y : Int64} (hy : y ≠ 0) (h : P[i]? = some (pc, 31, a, b, n, ts)) : am_ev X P i ls (.long y :: .long x :: st) S = am_ev X P (i + 1) ls (.long (x - x / y * y) :: st) S := by
  rw [ev_at h]
  have : am_step X (31, a, b, n, ts) i ls (.long y :: .long x :: st) S = am_go (i + 1) ls (.long (x - x / y * y) :: st) S := by
    show (if y = 0 then none else am_go (i + 1) ls (.long (x - x / y * y) :: st) S) = _
    rw [if_neg hy]
  rw [this]
  rfl
theorem ev_i2l {x : Int32} (h : P[i]? = some (pc, 32, a, b, n, ts)) : am_ev X P i ls (.int x :: st) S = am_ev X P (i + 1) ls (.long x.toInt64 :: st) S := by
  rw [ev_at h]
  rfl
theorem ev_l2i {x : Int64} (h : P[i]? = some (pc, 33, a, b, n, ts)) : am_ev X P i ls (.long x :: st) S = am_ev X P (i + 1) ls (.int x.toInt32 :: st) S := by
  rw [ev_at h]
  rfl
theorem ev_i2c {x : Int32} (h : P[i]? = some (pc, 34, a, b, n, ts)) : am_ev X P i ls (.int x :: st) S = am_ev X P (i + 1) ls (.int ((x.toUInt32 % 65536).toInt32) :: st) S := by
  rw [ev_at h]
  rfl
theorem ev_lconst (h : P[i]? = some (pc, 35, a, b, n, ts)) : am_ev X P i ls (st) S = am_ev X P (i + 1) ls (.long (Int64.ofNat a) :: st) S := by
  rw [ev_at h]
  rfl
theorem ev_ldc2 (h : P[i]? = some (pc, 36, a, b, n, ts)) : am_ev X P i ls (st) S = am_ev X P (i + 1) ls (.long (Int64.ofInt n) :: st) S := by
  rw [ev_at h]
  rfl
theorem ev_iload {x : Int32} (h : P[i]? = some (pc, 5, a, b, n, ts)) (hl : ls[a]? = some (.int x)) : am_ev X P i ls st S = am_ev X P (i + 1) ls (.int x :: st) S := by
  rw [ev_at h]
  have : am_step X (5, a, b, n, ts) i ls st S = am_go (i + 1) ls (.int x :: st) S := by
    show am_x_iload X (5, a, b, n, ts) i ls st S = _
    unfold am_x_iload
    rw [hl]
  rw [this]
  rfl
theorem ev_lload {x : Int64} (h : P[i]? = some (pc, 7, a, b, n, ts)) (hl : ls[a]? = some (.long x)) : am_ev X P i ls st S = am_ev X P (i + 1) ls (.long x :: st) S := by
  rw [ev_at h]
  have : am_step X (7, a, b, n, ts) i ls st S = am_go (i + 1) ls (.long x :: st) S := by
    show am_x_lload X (7, a, b, n, ts) i ls st S = _
    unfold am_x_lload
    rw [hl]
  rw [this]
  rfl
theorem ev_aload {x : Nat} (h : P[i]? = some (pc, 6, a, b, n, ts)) (hl : ls[a]? = some (.ref x)) : am_ev X P i ls st S = am_ev X P (i + 1) ls (.ref x :: st) S := by
  rw [ev_at h]
  have : am_step X (6, a, b, n, ts) i ls st S = am_go (i + 1) ls (.ref x :: st) S := by
    show am_x_aload X (6, a, b, n, ts) i ls st S = _
    unfold am_x_aload
    rw [hl]
  rw [this]
  rfl
theorem ev_aloadS {x : Nat} (h : P[i]? = some (pc, 6, a, b, n, ts)) (hl : ls[a]? = some (.retAddr x)) : am_ev X P i ls st S = am_ev X P (i + 1) ls (.retAddr x :: st) S := by
  rw [ev_at h]
  have : am_step X (6, a, b, n, ts) i ls st S = am_go (i + 1) ls (.retAddr x :: st) S := by
    show am_x_aload X (6, a, b, n, ts) i ls st S = _
    unfold am_x_aload
    rw [hl]
  rw [this]
  rfl
theorem ev_istore {x : Int32} {ls' : List Value} (h : P[i]? = some (pc, 8, a, b, n, ts)) (hl : a < ls.length) (he : am_st ls a (.int x) = ls') : am_ev X P i ls (.int x :: st) S = am_ev X P (i + 1) ls' st S := by
  rw [ev_at h]
  have : am_step X (8, a, b, n, ts) i ls (.int x :: st) S = am_go (i + 1) ls' st S := by
    show (if a < ls.length then am_go (i + 1) (am_st ls a (.int x)) st S else none) = _
    rw [if_pos hl, he]
  rw [this]
  rfl
theorem ev_astore {x : Nat} {ls' : List Value} (h : P[i]? = some (pc, 9, a, b, n, ts)) (hl : a < ls.length) (he : am_st ls a (.ref x) = ls') : am_ev X P i ls (.ref x :: st) S = am_ev X P (i + 1) ls' st S := by
  rw [ev_at h]
  have : am_step X (9, a, b, n, ts) i ls (.ref x :: st) S = am_go (i + 1) ls' st S := by
    show (if a < ls.length then am_go (i + 1) (am_st ls a (.ref x)) st S else none) = _
    rw [if_pos hl, he]
  rw [this]
  rfl
theorem ev_astoreS {x : Nat} {ls' : List Value} (h : P[i]? = some (pc, 9, a, b, n, ts)) (hl : a < ls.length) (he : am_st ls a (.retAddr x) = ls') : am_ev X P i ls (.retAddr x :: st) S = am_ev X P (i + 1) ls' st S := by
  rw [ev_at h]
  have : am_step X (9, a, b, n, ts) i ls (.retAddr x :: st) S = am_go (i + 1) ls' st S := by
    show (if a < ls.length then am_go (i + 1) (am_st ls a (.retAddr x)) st S else none) = _
    rw [if_pos hl, he]
  rw [this]
  rfl
theorem ev_lstore {x : Int64} {ls' : List Value} (h : P[i]? = some (pc, 10, a, b, n, ts)) (hl : a + 1 < ls.length) (he : am_st2 ls a (.long x) = ls') : am_ev X P i ls (.long x :: st) S = am_ev X P (i + 1) ls' st S := by
  rw [ev_at h]
  have : am_step X (10, a, b, n, ts) i ls (.long x :: st) S = am_go (i + 1) ls' st S := by
    show (if a + 1 < ls.length then am_go (i + 1) (am_st2 ls a (.long x)) st S else none) = _
    rw [if_pos hl, he]
  rw [this]
  rfl
theorem ev_iinc {x : Int32} {ls' : List Value} (h : P[i]? = some (pc, 11, a, b, n, ts)) (hl : ls[a]? = some (.int x)) (he : am_st ls a (.int (x + Int32.ofInt n)) = ls') : am_ev X P i ls st S = am_ev X P (i + 1) ls' st S := by
  rw [ev_at h]
  have : am_step X (11, a, b, n, ts) i ls st S = am_go (i + 1) ls' st S := by
    show am_x_iinc X (11, a, b, n, ts) i ls st S = _
    unfold am_x_iinc
    rw [hl]
    show am_go (i + 1) (am_st ls a (.int (x + Int32.ofInt n))) st S = _
    rw [he]
  rw [this]
  rfl
theorem ev_dupi {x : Int32} (h : P[i]? = some (pc, 37, a, b, n, ts)) : am_ev X P i ls (.int x :: st) S = am_ev X P (i + 1) ls (.int x :: .int x :: st) S := by
  rw [ev_at h]
  rfl
theorem ev_dupr {x : Nat} (h : P[i]? = some (pc, 37, a, b, n, ts)) : am_ev X P i ls (.ref x :: st) S = am_ev X P (i + 1) ls (.ref x :: .ref x :: st) S := by
  rw [ev_at h]
  rfl
theorem ev_dups {x : Nat} (h : P[i]? = some (pc, 37, a, b, n, ts)) : am_ev X P i ls (.retAddr x :: st) S = am_ev X P (i + 1) ls (.retAddr x :: .retAddr x :: st) S := by
  rw [ev_at h]
  rfl
theorem ev_popi {x : Int32} (h : P[i]? = some (pc, 38, a, b, n, ts)) : am_ev X P i ls (.int x :: st) S = am_ev X P (i + 1) ls (st) S := by
  rw [ev_at h]
  rfl
theorem ev_popr {x : Nat} (h : P[i]? = some (pc, 38, a, b, n, ts)) : am_ev X P i ls (.ref x :: st) S = am_ev X P (i + 1) ls (st) S := by
  rw [ev_at h]
  rfl
theorem ev_dup2 {x : Int32} {y : Nat} (h : P[i]? = some (pc, 39, a, b, n, ts)) : am_ev X P i ls (.int x :: .ref y :: st) S = am_ev X P (i + 1) ls (.int x :: .ref y :: .int x :: .ref y :: st) S := by
  rw [ev_at h]
  rfl
theorem ev_if0 {x : Int32} (h : P[i]? = some (pc, 40, a, 0, n, ts)) : am_ev X P i ls (.int x :: st) S = if x = 0 then am_ev X P a ls st S else am_ev X P (i + 1) ls st S := by
  rw [ev_at h]
  have : am_step X (40, a, 0, n, ts) i ls (.int x :: st) S = if x = 0 then am_go a ls st S else am_go (i + 1) ls st S := by
    show (if decide (x = 0) = true then am_go a ls st S else am_go (i + 1) ls st S) = _
    simp only [decide_eq_true_eq]
  rw [this]
  split <;> rfl
theorem ev_icmp0 {x y : Int32} (h : P[i]? = some (pc, 41, a, 0, n, ts)) : am_ev X P i ls (.int y :: .int x :: st) S = if x = y then am_ev X P a ls st S else am_ev X P (i + 1) ls st S := by
  rw [ev_at h]
  have : am_step X (41, a, 0, n, ts) i ls (.int y :: .int x :: st) S = if x = y then am_go a ls st S else am_go (i + 1) ls st S := by
    show (if decide (x = y) = true then am_go a ls st S else am_go (i + 1) ls st S) = _
    simp only [decide_eq_true_eq]
  rw [this]
  split <;> rfl
theorem ev_if1 {x : Int32} (h : P[i]? = some (pc, 40, a, 1, n, ts)) : am_ev X P i ls (.int x :: st) S = if ¬ x = 0 then am_ev X P a ls st S else am_ev X P (i + 1) ls st S := by
  rw [ev_at h]
  have : am_step X (40, a, 1, n, ts) i ls (.int x :: st) S = if ¬ x = 0 then am_go a ls st S else am_go (i + 1) ls st S := by
    show (if decide (¬ x = 0) = true then am_go a ls st S else am_go (i + 1) ls st S) = _
    simp only [decide_eq_true_eq]
  rw [this]
  split <;> rfl
theorem ev_icmp1 {x y : Int32} (h : P[i]? = some (pc, 41, a, 1, n, ts)) : am_ev X P i ls (.int y :: .int x :: st) S = if ¬ x = y then am_ev X P a ls st S else am_ev X P (i + 1) ls st S := by
  rw [ev_at h]
  have : am_step X (41, a, 1, n, ts) i ls (.int y :: .int x :: st) S = if ¬ x = y then am_go a ls st S else am_go (i + 1) ls st S := by
    show (if decide (¬ x = y) = true then am_go a ls st S else am_go (i + 1) ls st S) = _
    simp only [decide_eq_true_eq]
  rw [this]
  split <;> rfl
theorem ev_if2 {x : Int32} (h : P[i]? = some (pc, 40, a, 2, n, ts)) : am_ev X P i ls (.int x :: st) S = if x < 0 then am_ev X P a ls st S else am_ev X P (i + 1) ls st S := by
  rw [ev_at h]
  have : am_step X (40, a, 2, n, ts) i ls (.int x :: st) S = if x < 0 then am_go a ls st S else am_go (i + 1) ls st S := by
    show (if decide (x < 0) = true then am_go a ls st S else am_go (i + 1) ls st S) = _
    simp only [decide_eq_true_eq]
  rw [this]
  split <;> rfl
theorem ev_icmp2 {x y : Int32} (h : P[i]? = some (pc, 41, a, 2, n, ts)) : am_ev X P i ls (.int y :: .int x :: st) S = if x < y then am_ev X P a ls st S else am_ev X P (i + 1) ls st S := by
  rw [ev_at h]
  have : am_step X (41, a, 2, n, ts) i ls (.int y :: .int x :: st) S = if x < y then am_go a ls st S else am_go (i + 1) ls st S := by
    show (if decide (x < y) = true then am_go a ls st S else am_go (i + 1) ls st S) = _
    simp only [decide_eq_true_eq]
  rw [this]
  split <;> rfl
theorem ev_if3 {x : Int32} (h : P[i]? = some (pc, 40, a, 3, n, ts)) : am_ev X P i ls (.int x :: st) S = if 0 ≤ x then am_ev X P a ls st S else am_ev X P (i + 1) ls st S := by
  rw [ev_at h]
  have : am_step X (40, a, 3, n, ts) i ls (.int x :: st) S = if 0 ≤ x then am_go a ls st S else am_go (i + 1) ls st S := by
    show (if decide (0 ≤ x) = true then am_go a ls st S else am_go (i + 1) ls st S) = _
    simp only [decide_eq_true_eq]
  rw [this]
  split <;> rfl
theorem ev_icmp3 {x y : Int32} (h : P[i]? = some (pc, 41, a, 3, n, ts)) : am_ev X P i ls (.int y :: .int x :: st) S = if y ≤ x then am_ev X P a ls st S else am_ev X P (i + 1) ls st S := by
  rw [ev_at h]
  have : am_step X (41, a, 3, n, ts) i ls (.int y :: .int x :: st) S = if y ≤ x then am_go a ls st S else am_go (i + 1) ls st S := by
    show (if decide (y ≤ x) = true then am_go a ls st S else am_go (i + 1) ls st S) = _
    simp only [decide_eq_true_eq]
  rw [this]
  split <;> rfl
theorem ev_if4 {x : Int32} (h : P[i]? = some (pc, 40, a, 4, n, ts)) : am_ev X P i ls (.int x :: st) S = if 0 < x then am_ev X P a ls st S else am_ev X P (i + 1) ls st S := by
  rw [ev_at h]
  have : am_step X (40, a, 4, n, ts) i ls (.int x :: st) S = if 0 < x then am_go a ls st S else am_go (i + 1) ls st S := by
    show (if decide (0 < x) = true then am_go a ls st S else am_go (i + 1) ls st S) = _
    simp only [decide_eq_true_eq]
  rw [this]
  split <;> rfl
theorem ev_icmp4 {x y : Int32} (h : P[i]? = some (pc, 41, a, 4, n, ts)) : am_ev X P i ls (.int y :: .int x :: st) S = if y < x then am_ev X P a ls st S else am_ev X P (i + 1) ls st S := by
  rw [ev_at h]
  have : am_step X (41, a, 4, n, ts) i ls (.int y :: .int x :: st) S = if y < x then am_go a ls st S else am_go (i + 1) ls st S := by
    show (if decide (y < x) = true then am_go a ls st S else am_go (i + 1) ls st S) = _
    simp only [decide_eq_true_eq]
  rw [this]
  split <;> rfl
theorem ev_if5 {x : Int32} (h : P[i]? = some (pc, 40, a, 5, n, ts)) : am_ev X P i ls (.int x :: st) S = if x ≤ 0 then am_ev X P a ls st S else am_ev X P (i + 1) ls st S := by
  rw [ev_at h]
  have : am_step X (40, a, 5, n, ts) i ls (.int x :: st) S = if x ≤ 0 then am_go a ls st S else am_go (i + 1) ls st S := by
    show (if decide (x ≤ 0) = true then am_go a ls st S else am_go (i + 1) ls st S) = _
    simp only [decide_eq_true_eq]
  rw [this]
  split <;> rfl
theorem ev_icmp5 {x y : Int32} (h : P[i]? = some (pc, 41, a, 5, n, ts)) : am_ev X P i ls (.int y :: .int x :: st) S = if x ≤ y then am_ev X P a ls st S else am_ev X P (i + 1) ls st S := by
  rw [ev_at h]
  have : am_step X (41, a, 5, n, ts) i ls (.int y :: .int x :: st) S = if x ≤ y then am_go a ls st S else am_go (i + 1) ls st S := by
    show (if decide (x ≤ y) = true then am_go a ls st S else am_go (i + 1) ls st S) = _
    simp only [decide_eq_true_eq]
  rw [this]
  split <;> rfl
theorem ev_goto (h : P[i]? = some (pc, 42, a, b, n, ts)) : am_ev X P i ls st S = am_ev X P a ls st S := by
  rw [ev_at h]
  rfl
theorem ev_tswIn {x : Int32} (h : P[i]? = some (pc, 43, a, b, n, ts)) {k : Nat} (hx : x.toInt = n + (k : Int)) (ht : ts[k]? = some t) : am_ev X P i ls (.int x :: st) S = am_ev X P t ls st S := by
  rw [ev_at h]
  have hl : k < ts.length := (List.getElem?_eq_some_iff.mp ht).1
  have : am_step X (43, a, b, n, ts) i ls (.int x :: st) S = am_go t ls st S := by
    show (if x.toInt < n ∨ n + (ts.length : Int) ≤ x.toInt then am_go a ls st S else match ts[(x.toInt - n).toNat]? with
      | some t => am_go t ls st S
      | none => none) = _
    rw [if_neg (by omega), show (x.toInt - n).toNat = k by omega, ht]
  rw [this]
  rfl
theorem ev_tswOut {x : Int32} (h : P[i]? = some (pc, 43, a, b, n, ts)) (hx : x.toInt < n ∨ n + (ts.length : Int) ≤ x.toInt) : am_ev X P i ls (.int x :: st) S = am_ev X P a ls st S := by
  rw [ev_at h]
  have : am_step X (43, a, b, n, ts) i ls (.int x :: st) S = am_go a ls st S := by
    show (if x.toInt < n ∨ n + (ts.length : Int) ≤ x.toInt then am_go a ls st S else match ts[(x.toInt - n).toNat]? with
      | some t => am_go t ls st S
      | none => none) = _
    rw [if_pos hx]
  rw [this]
  rfl
end EV
