/-! LOOPS by what holds at each turn; pairs counted; the k-th -/
theorem Lp1 {α β : Type} {n : Nat} {G : Nat → β → α} {Iv : Nat → β → Prop} {P : α → Prop} (hs : ∀ k s, k < n → Iv k s → P (G k s) ∨ ∃ s', Iv (k + 1) s' ∧ G k s = G (k + 1) s') (he : ∀ s, Iv n s → P (G n s)) : ∀ s, Iv 0 s → P (G 0 s) := by
  have L : ∀ d k s, k + d = n → Iv k s → P (G k s) := by
    intro d
    induction d with
    | zero =>
      intro k s hk h
      obtain rfl : k = n := by omega
      exact he s h
    | succ d ih =>
      intro k s hk h
      rcases hs k s (by omega) h with q | ⟨s', h1, h2⟩
      · exact q
      · rw [h2]
        exact ih (k + 1) s' (by omega) h1
  intro s h
  exact L n 0 s (by omega) h
theorem Lp2 {α β : Type} {n : Nat} {O : Nat → β → α} {N : Nat → Nat → β → α} {Iv : Nat → Nat → β → Prop} {P : α → Prop} (ho : ∀ a s, a < n → Iv a (a + 1) s → ∃ s', Iv a (a + 1) s' ∧ O a s = N a (a + 1) s') (he : ∀ s, Iv n (n + 1) s → P (O n s)) (hi : ∀ a b s, a < b → b < n → Iv a b s → P (N a b s) ∨ ∃ s', Iv a (b + 1) s' ∧ N a b s = N a (b + 1) s') (hr : ∀ a s, a < n → Iv a n s → ∃ s', Iv (a + 1) (a + 2) s' ∧ N a n s = O (a + 1) s') : ∀ s, Iv 0 1 s → P (O 0 s) := by
  have L : ∀ d a s, a + d = n → Iv a (a + 1) s → P (O a s) := by
    intro d
    induction d with
    | zero =>
      intro a s ha h
      obtain rfl : a = n := by omega
      exact he s h
    | succ d ih =>
      intro a s ha h
      have M : ∀ e b s, a < b → b + e = n → Iv a b s → P (N a b s) := by
        intro e
        induction e with
        | zero =>
          intro b s hb hn h
          obtain rfl : b = n := by omega
          obtain ⟨s', h1, h2⟩ := hr a s (by omega) h
          rw [h2]
          exact ih (a + 1) s' (by omega) h1
        | succ e ihe =>
          intro b s hb hn h
          rcases hi a b s hb (by omega) h with q | ⟨s', h1, h2⟩
          · exact q
          · rw [h2]
            exact ihe (b + 1) s' (by omega) (by omega) h1
      obtain ⟨s', h1, h2⟩ := ho a s (by omega) h
      rw [h2]
      exact M (n - (a + 1)) (a + 1) s' (by omega) (by omega) h1
  intro s h
  exact L n 0 s (by omega) h
/-- how many pairs ahead of a, b -/
noncomputable def c2 (p : Nat → Nat → Prop) (n a b : Nat) : Int := fb_si (fun c => ci (fun d => c < d ∧ p c d) n) a + ci (fun d => a < d ∧ p a d) b
noncomputable def c2T (p : Nat → Nat → Prop) (n : Nat) : Int := fb_si (fun c => ci (fun d => c < d ∧ p c d) n) n
section C2
variable {p q : Nat → Nat → Prop} {n a b : Nat}
theorem c2_t (hab : a < b) (h : p a b) : c2 p n a (b + 1) = c2 p n a b + 1 := by
  unfold c2
  rw [ci_t (p := fun d => a < d ∧ p a d) ⟨hab, h⟩]
  omega
theorem c2_f (h : ¬ p a b) : c2 p n a (b + 1) = c2 p n a b := by
  unfold c2
  rw [ci_f (p := fun d => a < d ∧ p a d) (fun z => h z.2)]
theorem c2_z : ci (fun d => a < d ∧ p a d) (a + 1) = 0 := ci_z.mpr (fun k hk z => by omega)
theorem c2_r : c2 p n a n = c2 p n (a + 1) (a + 2) := by
  unfold c2
  rw [fb_si_succ, c2_z (p := p) (a := a + 1)]
  omega
theorem c2_0 : c2 p n 0 1 = 0 := by
  unfold c2
  rw [c2_z (p := p) (a := 0)]
  rfl
theorem c2_T : c2 p n n (n + 1) = c2T p n := by
  unfold c2 c2T
  rw [c2_z (p := p) (a := n)]
  omega
theorem c2_rg (hn : n ≤ 10) (ha : a ≤ 10) (hb : b ≤ 11) : 0 ≤ c2 p n a b ∧ c2 p n a b ≤ 1000 := by
  have h1 := fb_si_bound (f := fun c => ci (fun d => c < d ∧ p c d) n) (c := 10) (by omega) (n := a) (fun k _ => by
    have := ci_rg (p := fun d => k < d ∧ p k d) (n := n)
    constructor <;> omega)
  have h2 := ci_rg (p := fun d => a < d ∧ p a d) (n := b)
  have h3 : 0 ≤ fb_si (fun c => ci (fun d => c < d ∧ p c d) n) a := by
    clear h1 h2
    induction a with
    | zero => exact Int.le_refl _
    | succ a ih =>
      rw [fb_si_succ]
      have := ih (by omega)
      have := ci_rg (p := fun d => a < d ∧ p a d) (n := n)
      omega
  unfold c2
  omega
theorem c2T_cg (h : ∀ a b, a < b → b < n → (p a b ↔ q a b)) : c2T p n = c2T q n := by
  unfold c2T
  refine fb_si_cong (fun c hc => ci_cg (fun d hd => ?_))
  constructor
  · rintro ⟨h1, h2⟩; exact ⟨h1, (h c d h1 hd).mp h2⟩
  · rintro ⟨h1, h2⟩; exact ⟨h1, (h c d h1 hd).mpr h2⟩
/-- of a relation both ways each pair is met twice -/
theorem c2_twice (hs : ∀ a b, a < n → b < n → (p a b ↔ p b a)) (hr : ∀ a, a < n → ¬ p a a) : fb_si (fun b => ci (p b) n) n = 2 * c2T p n := by
  have L : ∀ m, m ≤ n → fb_si (fun b => ci (p b) m) m = 2 * fb_si (fun c => ci (fun d => c < d ∧ p c d) m) m := by
    intro m
    induction m with
    | zero => intro _; rfl
    | succ m ih =>
      intro hm
      have ih1 := ih (by omega)
      rw [fb_si_succ, fb_si_succ]
      have e1 : fb_si (fun b => ci (p b) (m + 1)) m = fb_si (fun b => ci (p b) m) m + ci (fun b => p b m) m := by
        have : ∀ k, k ≤ m → fb_si (fun b => ci (p b) (m + 1)) k = fb_si (fun b => ci (p b) m) k + ci (fun b => p b m) k := by
          intro k
          induction k with
          | zero => intro _; rfl
          | succ k ihk =>
            intro hk
            rw [fb_si_succ, fb_si_succ, ihk (by omega)]
            by_cases z : p k m
            · rw [ci_t (p := p k) z, ci_t (p := fun b => p b m) z]; omega
            · rw [ci_f (p := p k) z, ci_f (p := fun b => p b m) z]; omega
        exact this m (Nat.le_refl _)
      have e2 : fb_si (fun c => ci (fun d => c < d ∧ p c d) (m + 1)) m = fb_si (fun c => ci (fun d => c < d ∧ p c d) m) m + ci (fun b => p b m) m := by
        have : ∀ k, k ≤ m → fb_si (fun c => ci (fun d => c < d ∧ p c d) (m + 1)) k = fb_si (fun c => ci (fun d => c < d ∧ p c d) m) k + ci (fun b => p b m) k := by
          intro k
          induction k with
          | zero => intro _; rfl
          | succ k ihk =>
            intro hk
            rw [fb_si_succ, fb_si_succ, ihk (by omega)]
            by_cases z : p k m
            · rw [ci_t (p := fun d => k < d ∧ p k d) ⟨by omega, z⟩, ci_t (p := fun b => p b m) z]; omega
            · rw [ci_f (p := fun d => k < d ∧ p k d) (fun y => z y.2), ci_f (p := fun b => p b m) z]; omega
        exact this m (Nat.le_refl _)
      have e3 : ci (p m) (m + 1) = ci (fun b => p b m) m := by
        rw [ci_f (hr m (by omega))]
        exact ci_cg (fun k hk => hs m k (by omega) (by omega))
      have e4 : ci (fun d => m < d ∧ p m d) (m + 1) = 0 := c2_z
      rw [e1, e2, e3, e4, ih1]
      omega
  exact L n (Nat.le_refl _)
end C2
/-- the k-th of those that are so -/
noncomputable def kth (p : Nat → Prop) (n : Nat) (k : Int) : Int := @dite _ (∃ t, t < n ∧ p t ∧ ci p t = k) (Classical.propDecidable _) (fun h => ((Classical.choose h : Nat) : Int)) (fun _ => -1)
section KTH
variable {p q : Nat → Prop} {n t : Nat} {k : Int}
theorem kth_t (h1 : t < n) (h2 : p t) (h3 : ci p t = k) : kth p n k = t := by
  unfold kth
  have hx : ∃ t, t < n ∧ p t ∧ ci p t = k := ⟨t, h1, h2, h3⟩
  rw [dif_pos hx]
  have g := Classical.choose_spec hx
  generalize Classical.choose hx = u at g ⊢
  obtain ⟨g1, g2, g3⟩ := g
  have := fb_ct_kth_one (p := fun k => bl (p k)) (bl_t g2) (bl_t h2) (by
    unfold ci at g3 h3
    omega)
  rw [this]
theorem kth_f (h : ∀ t, t < n → ¬ (p t ∧ ci p t = k)) : kth p n k = -1 := by
  unfold kth
  rw [dif_neg]
  rintro ⟨t, h1, h2, h3⟩
  exact h t h1 ⟨h2, h3⟩
theorem kth_neg (h : k < 0) : kth p n k = -1 := kth_f (fun t _ z => by
  have := ci_rg (p := p) (n := t)
  omega)
theorem kth_rg : -1 ≤ kth p n k ∧ kth p n k < n := by
  by_cases h : ∃ t, t < n ∧ p t ∧ ci p t = k
  · obtain ⟨t, h1, h2, h3⟩ := h
    rw [kth_t h1 h2 h3]
    omega
  · rw [kth_f (fun t h1 z => h ⟨t, h1, z⟩)]
    omega
/-- how many, for k = -1; else the k-th -/
noncomputable def kom (p : Nat → Prop) (n : Nat) (k : Int) : Int := if k = -1 then ci p n else kth p n k
theorem kom_m : kom p n (-1) = ci p n := if_pos rfl
theorem kom_k (h : k ≠ -1) : kom p n k = kth p n k := if_neg h
end KTH
