/-! THE LIST of the model: put in order one by one -/
/-- how many are met by a row of unlike places -/
theorem ct_img {N : Nat} {f : Nat → Nat} : ∀ k, (∀ j, j < k → f j < N) → (∀ i j, i < j → j < k → f i ≠ f j) → fb_ct (fun i => bl (∃ j, j < k ∧ f j = i)) N = k := by
  intro k
  induction k with
  | zero =>
    intro _ _
    exact fb_ct_zero.mpr (fun i _ => bl_f (by rintro ⟨j, hj, -⟩; omega))
  | succ k ih =>
    intro h1 h2
    have ih1 := ih (fun j hj => h1 j (by omega)) (fun i j hi hj => h2 i j hi (by omega))
    have hu := fb_ct_upd (fun i => bl (∃ j, j < k ∧ f j = i)) true (i := f k) (n := N) (h1 k (by omega))
    have e0 : bl (∃ j, j < k ∧ f j = f k) = false := bl_f (by
      rintro ⟨j, hj, e⟩
      exact h2 j k hj (by omega) e)
    rw [e0] at hu
    have ec : fb_ct (fun i => bl (∃ j, j < k + 1 ∧ f j = i)) N = fb_ct (fun i => if i = f k then true else bl (∃ j, j < k ∧ f j = i)) N := fb_ct_cong (fun i hi => by
      by_cases e : i = f k
      · rw [if_pos e]
        exact bl_t ⟨k, by omega, e.symm⟩
      · rw [if_neg e]
        refine bl_cg ⟨?_, ?_⟩
        · rintro ⟨j, hj, ej⟩
          by_cases x : j = k
          · subst x; exact absurd ej.symm e
          · exact ⟨j, by omega, ej⟩
        · rintro ⟨j, hj, ej⟩
          exact ⟨j, by omega, ej⟩)
    rw [ec]
    simp only [if_true, Bool.false_eq_true, if_false] at hu
    omega
/-- pairs in a row -/
def lin (p : Nat → Nat → Prop) (n i : Nat) : Prop := i / 10 < i % 10 ∧ i % 10 < n ∧ p (i / 10) (i % 10)
theorem c2_lin {p : Nat → Nat → Prop} {n : Nat} (hn : n ≤ 10) : ∀ a, a ≤ n → c2 p n a (a + 1) = ci (lin p n) (10 * a + a + 1) := by
  have row : ∀ a, a < 10 → ∀ d b, a < b → b + d = n → c2 p n a b = ci (lin p n) (10 * a + b) → c2 p n a n = ci (lin p n) (10 * a + n) := by
    intro a ha d
    induction d with
    | zero =>
      intro b hab hb e
      obtain rfl : b = n := by omega
      exact e
    | succ d ih =>
      intro b hab hb e
      refine ih (b + 1) (by omega) (by omega) ?_
      have e1 : (10 * a + b) / 10 = a := by omega
      have e2 : (10 * a + b) % 10 = b := by omega
      rw [← Nat.add_assoc]
      by_cases q : p a b
      · rw [c2_t hab q, ci_t (p := lin p n) (k := 10 * a + b) (by unfold lin; rw [e1, e2]; exact ⟨hab, by omega, q⟩), e]
      · rw [c2_f q, ci_f (p := lin p n) (k := 10 * a + b) (by unfold lin; rw [e1, e2]; exact fun z => q z.2.2), e]
  have gap : ∀ i d, (∀ j, i ≤ j → j < i + d → ¬ lin p n j) → ci (lin p n) (i + d) = ci (lin p n) i := by
    intro i d
    induction d with
    | zero => intro _; rfl
    | succ d ih =>
      intro h
      rw [← Nat.add_assoc, ci_f (h (i + d) (by omega) (by omega))]
      exact ih (fun j h1 h2 => h j h1 (by omega))
  intro a
  induction a with
  | zero =>
    intro _
    rw [c2_0]
    refine (ci_z.mpr (fun k hk z => ?_)).symm
    have := z.1
    omega
  | succ a ih =>
    intro ha
    have r := row a (by omega) (n - (a + 1)) (a + 1) (by omega) (by omega) (ih (by omega))
    have e : c2 p n (a + 1) (a + 1 + 1) = c2 p n a n := c2_r.symm
    rw [e, r]
    have := gap (10 * a + n) (10 * (a + 1) + (a + 1) + 1 - (10 * a + n)) (fun j h1 h2 z => by
      obtain ⟨z1, z2, -⟩ := z
      omega)
    rw [show 10 * a + n + (10 * (a + 1) + (a + 1) + 1 - (10 * a + n)) = 10 * (a + 1) + (a + 1) + 1 by omega] at this
    exact this.symm
theorem c2T_lin {p : Nat → Nat → Prop} {n : Nat} (hn : n ≤ 10) : c2T p n = ci (lin p n) 111 := by
  have := c2_lin (p := p) hn n (Nat.le_refl _)
  rw [c2_T] at this
  rw [this]
  have gap : ∀ d, ci (lin p n) (10 * n + n + 1 + d) = ci (lin p n) (10 * n + n + 1) := by
    intro d
    induction d with
    | zero => rfl
    | succ d ih =>
      rw [← Nat.add_assoc, ci_f (p := lin p n) (k := 10 * n + n + 1 + d) (fun z => by
        obtain ⟨z1, z2, -⟩ := z
        omega)]
      exact ih
  have h := gap (111 - (10 * n + n + 1))
  rw [show 10 * n + n + 1 + (111 - (10 * n + n + 1)) = 111 by omega] at h
  exact h.symm
/-- room for pairs -/
def tri : Nat → Nat
  | 0 => 0
  | a + 1 => tri a + (9 - a)
theorem tri_le {a b : Nat} (hab : a < b) (hb : b ≤ 9) : tri a + (b - a - 1) ≤ 44 := by
  have : ∀ a, a < 9 → tri a + (8 - a) ≤ 44 := by decide
  have := this a (by omega)
  omega
section S52
variable {X : am_X} {K : Sk} {I : Nat → Nat → Int32} {J : Nat → Nat → Int64} {a b o : Nat}
def ent (K : Sk) (I : Nat → Nat → Int32) (j : Nat) (q : Nat × Nat) : Prop := I 151 j = iI q.1 ∧ I 152 j = iI q.2 ∧ I 153 j = iI (clq K q) ∧ I 154 j = iI (lfq K q)
/-- a list of m near pairs in order, all that are so -/
def lst (K : Sk) (A : Nat → Nat → Prop) (m : Nat) (f : Nat → Nat × Nat) : Prop := (∀ j, j < m → (f j).1 < (f j).2 ∧ (f j).2 < kn K ∧ nk K (f j).1 (f j).2 ∧ A (f j).1 (f j).2) ∧ (∀ i j, i < j → j < m → aq K (f i) (f j)) ∧ ∀ c d, c < d → d < kn K → nk K c d → A c d → ∃ j, j < m ∧ f j = (c, d)
theorem aq_tr {p q r : Nat × Nat} (h1 : aq K p q) (h2 : aq K q r) : aq K p r := by
  unfold aq at *
  omega
theorem aq_irr {p : Nat × Nat} : ¬ aq K p p := by
  unfold aq
  omega
theorem lst_rank (hn : kn K ≤ 10) {m : Nat} {f : Nat → Nat × Nat} (h : lst K (fun _ _ => True) m f) {k : Nat} (hk : k < m) : c2T (na_ K (f k)) (kn K) = k := by
  obtain ⟨h1, h2, h3⟩ := h
  rw [c2T_lin hn]
  unfold ci
  have := ct_img (N := 111) (f := fun j => 10 * (f j).1 + (f j).2) k (fun j hj => by
    have := h1 j (by omega)
    try dsimp only
    omega) (fun i j hij hj e => by
    have a1 := h1 i (by omega)
    have a2 := h1 j (by omega)
    try dsimp only at e
    have e1 : (f i).1 = (f j).1 := by omega
    have e2 : (f i).2 = (f j).2 := by omega
    have := h2 i j hij (by omega)
    rw [show f i = f j from Prod.ext e1 e2] at this
    exact aq_irr this)
  have hc : fb_ct (fun i => bl (lin (na_ K (f k)) (kn K) i)) 111 = fb_ct (fun i => bl (∃ j, j < k ∧ 10 * (f j).1 + (f j).2 = i)) 111 := fb_ct_cong (fun i hi => bl_cg (by
    constructor
    · rintro ⟨l1, l2, l3, l4⟩
      obtain ⟨j, j1, j2⟩ := h3 (i / 10) (i % 10) l1 l2 l3 trivial
      rw [← j2] at l4
      have hjk : j < k := by
        rcases Nat.lt_trichotomy j k with q | q | q
        · exact q
        · rw [q] at l4; exact absurd l4 aq_irr
        · exact absurd (aq_tr l4 (h2 k j q j1)) aq_irr
      refine ⟨j, hjk, ?_⟩
      rw [j2]
      dsimp only
      omega
    · rintro ⟨j, j1, j2⟩
      have a1 := h1 j (by omega)
      have e1 : i / 10 = (f j).1 := by omega
      have e2 : i % 10 = (f j).2 := by omega
      unfold lin na_
      rw [e1, e2]
      exact ⟨a1.1, a1.2.1, a1.2.2.1, h2 j k j1 hk⟩))
  rw [hc, this]
/-- a place is made -/
def ins (f : Nat → Nat × Nat) (k : Nat) (p : Nat × Nat) (j : Nat) : Nat × Nat := if j < k then f j else if j = k then p else f (j - 1)
theorem lst_ins {A B : Nat → Nat → Prop} {m k : Nat} {f : Nat → Nat × Nat} (h : lst K A m f) (hk : k ≤ m) (hab : a < b) (hb : b < kn K) (hnk : nk K a b) (hA : ∀ c d, c < d → d < kn K → (B c d ↔ A c d ∨ (c = a ∧ d = b))) (g1 : ∀ j, j < k → aq K (f j) (a, b)) (g2 : ∀ j, k ≤ j → j < m → aq K (a, b) (f j)) : lst K B (m + 1) (ins f k (a, b)) := by
  obtain ⟨h1, h2, h3⟩ := h
  refine ⟨fun j hj => ?_, fun i j hij hj => ?_, fun c d hcd hd hn hB => ?_⟩
  · unfold ins
    by_cases q : j < k
    · rw [if_pos q]
      obtain ⟨x1, x2, x3, x4⟩ := h1 j (by omega)
      exact ⟨x1, x2, x3, (hA _ _ x1 x2).mpr (Or.inl x4)⟩
    · rw [if_neg q]
      by_cases q2 : j = k
      · rw [if_pos q2]
        exact ⟨hab, hb, hnk, (hA _ _ hab hb).mpr (Or.inr ⟨rfl, rfl⟩)⟩
      · rw [if_neg q2]
        obtain ⟨x1, x2, x3, x4⟩ := h1 (j - 1) (by omega)
        exact ⟨x1, x2, x3, (hA _ _ x1 x2).mpr (Or.inl x4)⟩
  · unfold ins
    by_cases q : i < k
    · rw [if_pos q]
      by_cases q2 : j < k
      · rw [if_pos q2]; exact h2 i j hij (by omega)
      · rw [if_neg q2]
        by_cases q3 : j = k
        · rw [if_pos q3]; exact g1 i q
        · rw [if_neg q3]; exact h2 i (j - 1) (by omega) (by omega)
    · rw [if_neg q, if_neg (show ¬ j < k by omega)]
      by_cases q2 : i = k
      · rw [if_pos q2, if_neg (show ¬ j = k by omega)]
        exact g2 (j - 1) (by omega) (by omega)
      · rw [if_neg q2, if_neg (show ¬ j = k by omega)]
        exact h2 (i - 1) (j - 1) (by omega) (by omega)
  · rcases (hA c d hcd hd).mp hB with q | ⟨rfl, rfl⟩
    · obtain ⟨j, j1, j2⟩ := h3 c d hcd hd hn q
      by_cases q2 : j < k
      · exact ⟨j, by omega, by unfold ins; rw [if_pos q2]; exact j2⟩
      · refine ⟨j + 1, by omega, ?_⟩
        unfold ins
        rw [if_neg (by omega), if_neg (by omega)]
        exact j2
    · exact ⟨k, by omega, by unfold ins; rw [if_neg (by omega), if_pos rfl]⟩
/-- pairs ahead of a, b -/
def lxa (a b c d : Nat) : Prop := c < a ∨ (c = a ∧ d < b)
def FrL (I I' : Nat → Nat → Int32) : Prop := ∀ c k, ¬ (151 ≤ c ∧ c ≤ 154) → I' c k = I c k
theorem MS_L {I' : Nat → Nat → Int32} (h : MS K I) (f : FrL I I') : MS K I' := by
  have e : ∀ c k, ¬ (151 ≤ c ∧ c ≤ 154) → I' c k = I c k := f
  refine ⟨MS_k h, ?_, fun b hb => ?_⟩
  · rw [e _ _ (by omega), e _ _ (by omega), e _ _ (by omega), e _ _ (by omega)]
    exact h.2.1
  · have er : mr I' b = mr I b := mr_congr (fun k => e _ _ (by omega)) (fun k => e _ _ (by omega)) (fun k => e _ _ (by omega))
    refine ⟨er.trans (MS_r h hb), ?_⟩
    have g := MS_g h hb
    unfold mg at g ⊢
    rw [er]
    simp only [e 150 _ (by omega)]
    exact g
theorem Fr_L {I' : Nat → Nat → Int32} (f : FrL I I') : Fr W_n I I' := fun c k q => f c k (fun z => by
  have : W_n c k = true := by
    have e : ∀ c, c < 155 → 151 ≤ c → W_nb c = true ∧ Nat.beq c 139 = false ∧ Nat.beq c 148 = false := by decide
    obtain ⟨e1, e2, e3⟩ := e c (by omega) z.1
    unfold W_n
    rw [e1, e2, e3]
    rfl
  rw [this] at q
  cases q)
end S52
