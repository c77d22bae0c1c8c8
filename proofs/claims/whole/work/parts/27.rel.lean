/-! WHERE A BODY IS, of a row f of its numbers (0 LOW, 1 HIGH, 2 TURN, 3 PHASE, 4 LIFT, 5 TILT, 6 NODE, 7 FUEL, 8 UP) -/
def ps_ok (f : Nat → Int32) : Prop := (1 ≤ (f 0).toInt ∧ (f 0).toInt ≤ (f 1).toInt ∧ (f 1).toInt ≤ 200) ∧ (2 ≤ (f 2).toInt ∧ (f 2).toInt ≤ 48) ∧ (0 ≤ (f 3).toInt ∧ (f 3).toInt < (f 2).toInt) ∧ (0 ≤ (f 4).toInt ∧ (f 4).toInt < (f 2).toInt) ∧ (0 ≤ (f 5).toInt ∧ (f 5).toInt ≤ 16) ∧ (0 ≤ (f 6).toInt ∧ (f 6).toInt ≤ 3) ∧ (0 ≤ (f 7).toInt ∧ (f 7).toInt ≤ 99) ∧ (f 8 = 0 ∨ f 8 = 1)
def ps_t (f : Nat → Int32) : Nat := (f 2).toInt.toNat
def ps_ph (f : Nat → Int32) : Nat := (f 3).toInt.toNat
/-- HEIGHT at a step -/
def ps_h (f : Nat → Int32) (s : Int) : Int := (f 0).toInt + 2 * ((f 1).toInt - (f 0).toInt) * min ((s + (f 4).toInt) % (f 2).toInt) ((f 2).toInt - (s + (f 4).toInt) % (f 2).toInt) / (f 2).toInt
def ps_w (f : Nat → Int32) (s : Int) : Int := 4 * s * ps_h f s / (f 2).toInt
def ps_p (f : Nat → Int32) (s : Int) : Int := if ps_w f s ≤ ps_h f s then ps_h f s - ps_w f s else if ps_w f s ≤ 2 * ps_h f s then ps_h f s - ps_w f s else ps_w f s - 3 * ps_h f s
def ps_q (f : Nat → Int32) (s : Int) : Int := if ps_w f s ≤ ps_h f s then ps_w f s else if ps_w f s ≤ 2 * ps_h f s then 2 * ps_h f s - ps_w f s else if ps_w f s ≤ 3 * ps_h f s then 2 * ps_h f s - ps_w f s else ps_w f s - 4 * ps_h f s
def ps_f (f : Nat → Int32) (s : Int) : Int := (ps_q f s * (16 - (f 5).toInt)).tdiv 16
def ps_x (f : Nat → Int32) (s : Int) : Int := if f 6 = 0 then ps_p f s else if f 6 = 1 then - ps_f f s else if f 6 = 2 then - ps_p f s else ps_f f s
def ps_y (f : Nat → Int32) (s : Int) : Int := if f 6 = 0 then ps_f f s else if f 6 = 1 then ps_p f s else if f 6 = 2 then - ps_f f s else - ps_p f s
def ps_z (f : Nat → Int32) (s : Int) : Int := (ps_q f s * (f 5).toInt).tdiv 16
/-- the step at a tick -/
def ps_s (f : Nat → Int32) (t : Nat) : Nat := (ps_ph f + t) % ps_t f
/-- how FAR two are at their steps, at a tick; their CYCLE; least FAR, the first tick of it -/
def ps_d (f g : Nat → Int32) (s u : Nat) : Int := (ps_x f s - ps_x g u) * (ps_x f s - ps_x g u) + (ps_y f s - ps_y g u) * (ps_y f s - ps_y g u) + (ps_z f s - ps_z g u) * (ps_z f s - ps_z g u)
def ps_far (f g : Nat → Int32) (t : Nat) : Int := ps_d f g (ps_s f t) (ps_s g t)
def ps_cy (f g : Nat → Int32) : Nat := Nat.lcm (ps_t f) (ps_t g)
def ps_ct (f g : Nat → Int32) : Nat → Nat
  | 0 => 0
  | n + 1 => if ps_far f g (n + 1) < ps_far f g (ps_ct f g n) then n + 1 else ps_ct f g n
/-! THE TWO IN STEP -/
/-- what the class has now, in the order of a saved row: numbers of the bodies, GAP, NOW, how many KEPT, their rows -/
def ps_cv (I : Nat → Nat → Int32) : Nat → Int32 := fun j => if j < 90 then I (am_bd (j / 9) + 1) (j % 9) else if j = 90 then I 16 3 else if j = 91 then I 16 5 else if j = 92 then I 16 6 else I 18 (j - 93)
/-- a row u of the class and a row m of the model tell the same of c bodies -/
def ps_snap (c : Nat) (u m : Nat → Int32) : Prop :=
  (∀ b, b < c → u (9 * b) = m (3 + 7 * b) ∧ u (9 * b + 1) = m (3 + 7 * b + 1) ∧ u (9 * b + 3) = m (3 + 7 * b + 2) ∧ u (9 * b + 4) = m (3 + 7 * b + 3) ∧ u (9 * b + 5) = m (3 + 7 * b + 4) ∧ u (9 * b + 7) = m (3 + 7 * b + 5) ∧ u (9 * b + 8) = m (3 + 7 * b + 6) ∧ ps_ok (fun k => u (9 * b + k))) ∧
  (u 90 = m 0 ∧ 0 ≤ (u 90).toInt ∧ (u 90).toInt ≤ 99) ∧ (u 91 = m 1 ∧ 0 ≤ (u 91).toInt ∧ (u 91).toInt ≤ 9999) ∧ (u 92 = m 2 ∧ 0 ≤ (u 92).toInt ∧ (u 92).toInt ≤ 40) ∧ ∀ j : Nat, (j : Int) < 2 * (u 92).toInt → u (93 + j) = m (73 + j)
def ps_c (I : Nat → Nat → Int32) : Nat := (I 16 2).toInt.toNat
def ps_u (I : Nat → Nat → Int32) : Nat := (I 106 6).toInt.toNat
def ps_o (I : Nat → Nat → Int32) : Nat := (I 106 5).toInt.toNat
def ps_row (I : Nat → Nat → Int32) (b : Nat) : Nat → Int32 := I (am_bd b + 1)
/-- the tape -/
def rl_T (l m : Int32) (f g : Nat → Int32) : Prop := l = m ∧ 0 ≤ l.toInt ∧ l.toInt ≤ 1600 ∧ ∀ k : Nat, (k : Int) < l.toInt → f k = g k ∧ 0 ≤ (f k).toInt ∧ (f k).toInt ≤ 255
/-- refusals -/
def rl_R (f g : Nat → Int32) : Prop := ∀ k, k < 6 → f k = g k
/-- the image -/
def rl_M (l m : Int32) (f g : Nat → Int32) : Prop := l = m ∧ 0 ≤ l.toInt ∧ l.toInt ≤ 72 ∧ ∀ k : Nat, (k : Int) < l.toInt → f k = g k
/-- the sky as it is -/
def rl_S (I : Nat → Nat → Int32) : Prop := (I 16 1 = 0 ∨ I 16 1 = 1) ∧ I 139 0 = I 16 1 ∧ I 139 1 = I 16 2 ∧ (0 ≤ (I 16 2).toInt ∧ (I 16 2).toInt ≤ 10) ∧ I 139 2 = I 16 4 ∧ (0 ≤ (I 16 4).toInt ∧ (I 16 4).toInt ≤ 20) ∧ ps_snap (ps_c I) (ps_cv I) (I 148) ∧
  (I 16 1 = 0 → I 16 2 = 0 ∧ I 16 3 = 0 ∧ I 16 4 = 0 ∧ I 16 5 = 0 ∧ I 16 6 = 0 ∧ I 106 6 = 0 ∧ I 128 1 = 0) ∧
  ∀ b, b < ps_c I → I 140 b = ps_row I b 2 ∧ I 141 b = ps_row I b 6 ∧ I (am_bd b) 1 = ps_row I b 2
/-- the rings: places by step in the class, by tick in the model -/
def rl_G (I : Nat → Nat → Int32) : Prop := ∀ b, b < ps_c I → ∀ s, s < ps_t (ps_row I b) →
  (I (am_bd b + 2) s = Int32.ofInt (ps_x (ps_row I b) s) ∧ I (am_bd b + 3) s = Int32.ofInt (ps_y (ps_row I b) s) ∧ I (am_bd b + 4) s = Int32.ofInt (ps_z (ps_row I b) s) ∧ I (am_bd b + 5) s = Int32.ofInt (ps_h (ps_row I b) s)) ∧
  (I 150 (4 * (48 * b + s)) = Int32.ofInt (ps_x (ps_row I b) (ps_s (ps_row I b) s)) ∧ I 150 (4 * (48 * b + s) + 1) = Int32.ofInt (ps_y (ps_row I b) (ps_s (ps_row I b) s)) ∧ I 150 (4 * (48 * b + s) + 2) = Int32.ofInt (ps_z (ps_row I b) (ps_s (ps_row I b) s)) ∧ I 150 (4 * (48 * b + s) + 3) = Int32.ofInt (ps_h (ps_row I b) (ps_s (ps_row I b) s)))
/-- names: a code of six letters, five bits each -/
def rl_N (I : Nat → Nat → Int32) : Prop := ∀ b, b < ps_c I → (0 < (I (am_bd b) 0).toInt ∧ (I (am_bd b) 0).toInt < 2 ^ 30) ∧ ∀ i, i < 6 → (I 142 (6 * b + i)).toInt = (I (am_bd b) 0).toInt / 2 ^ (5 * i) % 32
/-- what can be undone -/
def rl_U (I : Nat → Nat → Int32) : Prop := I 139 24 = I 106 6 ∧ (0 ≤ (I 106 6).toInt ∧ (I 106 6).toInt ≤ 20) ∧ (0 ≤ (I 106 5).toInt ∧ (I 106 5).toInt < 20) ∧ ∀ v, v < ps_u I → ps_snap (ps_c I) (I (108 + (ps_o I + v) % 20)) (fun j => I 149 (153 * v + j)) ∧ ∀ b, b < ps_c I → I (108 + (ps_o I + v) % 20) (9 * b + 2) = ps_row I b 2 ∧ I (108 + (ps_o I + v) % 20) (9 * b + 6) = ps_row I b 6
/-- what is seen -/
def rl_E (I : Nat → Nat → Int32) : Prop := I 139 36 = I 128 1 ∧ (0 ≤ (I 128 1).toInt ∧ (I 128 1).toInt ≤ 16) ∧ (0 < (I 128 1).toInt → I 139 37 = I 128 0 ∧ 0 ≤ (I 128 0).toInt ∧ (I 128 0).toInt < (I 16 2).toInt) ∧ ∀ k : Nat, (k : Int) < (I 128 1).toInt → I 158 k = I 129 k ∧ I 159 k = I 130 k ∧ (0 ≤ (I 129 k).toInt ∧ (I 129 k).toInt ≤ 255) ∧ (0 ≤ (I 130 k).toInt ∧ (I 130 k).toInt ≤ 3)
/-- the model's own letters of the own words -/
def ps_own : List Int32 := [7, 1, 16, 0, 19, 9, 26, 5, 0, 2, 15, 4, 25, 0, 12, 15, 23, 0, 8, 9, 7, 8, 0, 20, 21, 18, 14, 0, 16, 8, 1, 19, 5, 0, 12, 9, 6, 20, 0, 20, 9, 12, 20, 0, 14, 15, 4, 5, 0, 6, 21, 5, 12, 0]
/-- what the class keeps of pairs, sieves, searches; how often things have changed -/
def rl_C (n : Nat) (I : Nat → Nat → Int32) : Prop := (0 ≤ (I 16 8).toInt ∧ (I 16 8).toInt ≤ 2 * n) ∧ (I 96 8).toInt ≤ (I 16 8).toInt ∧
  (∀ a b, a < b → b < ps_c I → I 84 (10 * a + b) = -1 ∨ (I 84 (10 * a + b) = Int32.ofInt (ps_far (ps_row I a) (ps_row I b) (ps_ct (ps_row I a) (ps_row I b) (ps_cy (ps_row I a) (ps_row I b) - 1))) ∧ I 85 (10 * a + b) = nI (ps_ct (ps_row I a) (ps_row I b) (ps_cy (ps_row I a) (ps_row I b) - 1)))) ∧
  ∀ k, k < 10 → 0 ≤ (I 104 k).toInt ∧ (I 104 k).toInt < 48
/-- class and model in step behind n calls -/
def Rl_ (n : Nat) (I : Nat → Nat → Int32) (_ : Nat → Nat → Int64) : Prop := rl_T (I 1 1) (I 139 12) (I 2) (I 145) ∧ (I 3 0 = I 139 14 ∧ I 3 1 = I 139 15) ∧ rl_R (I 138) (I 146) ∧ (I 106 7 = I 139 41 ∧ 0 ≤ (I 106 7).toInt) ∧ rl_M (I 133 1) (I 139 43) (I 134) (I 161) ∧ rl_S I ∧ rl_G I ∧ rl_N I ∧ rl_U I ∧ rl_E I ∧ (∀ k, k < 54 → I 147 k = ps_own.getD k 0) ∧ rl_C n I
/-! what each part looks at: two states alike there are alike to it -/
theorem bd_rg {b : Nat} (h : b < 10) : 19 ≤ am_bd b ∧ am_bd b + 5 ≤ 78 := by
  unfold am_bd
  rw [if_pos h]
  omega
def rd_S (c k : Nat) : Prop := c = 16 ∨ c = 18 ∨ c = 140 ∨ c = 141 ∨ c = 148 ∨ (19 ≤ c ∧ c ≤ 78) ∨ (c = 139 ∧ k ≤ 2) ∨ (c = 106 ∧ k = 6) ∨ (c = 128 ∧ k = 1)
theorem cv_congr {I I' : Nat → Nat → Int32} (h : ∀ c k, rd_S c k → I' c k = I c k) : ps_cv I' = ps_cv I := by
  funext j
  unfold ps_cv
  split
  · rename_i hj
    have := bd_rg (b := j / 9) (by omega)
    exact h _ _ (Or.inr (Or.inr (Or.inr (Or.inr (Or.inr (Or.inl ⟨by omega, by omega⟩))))))
  · split
    · exact h _ _ (Or.inl rfl)
    · split
      · exact h _ _ (Or.inl rfl)
      · split
        · exact h _ _ (Or.inl rfl)
        · exact h _ _ (Or.inr (Or.inl rfl))
theorem row_congr {I I' : Nat → Nat → Int32} (h : ∀ c k, rd_S c k → I' c k = I c k) {b : Nat} (hb : b < 10) : ps_row I' b = ps_row I b := by
  funext k
  have := bd_rg hb
  exact h _ _ (Or.inr (Or.inr (Or.inr (Or.inr (Or.inr (Or.inl ⟨by omega, by omega⟩))))))
theorem c_congr {I I' : Nat → Nat → Int32} (h : ∀ c k, rd_S c k → I' c k = I c k) : ps_c I' = ps_c I := by
  unfold ps_c
  rw [h 16 2 (Or.inl rfl)]
theorem S_c {I : Nat → Nat → Int32} (h : rl_S I) : ps_c I ≤ 10 := by
  have := h.2.2.2.1
  unfold ps_c
  omega
theorem S_congr {I I' : Nat → Nat → Int32} (h : ∀ c k, rd_S c k → I' c k = I c k) (hs : rl_S I) : rl_S I' := by
  have hc := S_c hs
  have e16 : ∀ k, I' 16 k = I 16 k := fun k => h 16 k (Or.inl rfl)
  have e148 : I' 148 = I 148 := funext fun k => h 148 k (by unfold rd_S; omega)
  unfold rl_S at hs ⊢
  rw [cv_congr h, c_congr h, e148]
  simp only [e16]
  rw [h 139 0 (by unfold rd_S; omega), h 139 1 (by unfold rd_S; omega), h 139 2 (by unfold rd_S; omega), h 106 6 (by unfold rd_S; omega), h 128 1 (by unfold rd_S; omega)]
  obtain ⟨h1, h2, h3, h4, h5, h6, h7, h8, h9⟩ := hs
  refine ⟨h1, h2, h3, h4, h5, h6, h7, h8, fun b hb => ?_⟩
  have hb10 : b < 10 := by omega
  have := bd_rg hb10
  rw [row_congr h hb10, h 140 b (by unfold rd_S; omega), h 141 b (by unfold rd_S; omega), h (am_bd b) 1 (by unfold rd_S; omega)]
  exact h9 b hb
theorem G_congr {I I' : Nat → Nat → Int32} (h : ∀ c k, rd_S c k ∨ c = 150 → I' c k = I c k) (hs : rl_S I) (hg : rl_G I) : rl_G I' := by
  have h' : ∀ c k, rd_S c k → I' c k = I c k := fun c k q => h c k (Or.inl q)
  have hc := S_c hs
  intro b hb s hb2
  rw [c_congr h'] at hb
  have hb10 : b < 10 := by omega
  have := bd_rg hb10
  rw [row_congr h' hb10] at hb2 ⊢
  have e1 : ∀ o, o ≤ 5 → ∀ k, I' (am_bd b + o) k = I (am_bd b + o) k := fun o ho k => h _ _ (Or.inl (by unfold rd_S; omega))
  rw [e1 2 (by omega), e1 3 (by omega), e1 4 (by omega), e1 5 (by omega), h 150 _ (Or.inr rfl), h 150 _ (Or.inr rfl), h 150 _ (Or.inr rfl), h 150 _ (Or.inr rfl)]
  exact hg b hb s hb2
theorem N_congr {I I' : Nat → Nat → Int32} (h : ∀ c k, rd_S c k ∨ c = 142 → I' c k = I c k) (hs : rl_S I) (hg : rl_N I) : rl_N I' := by
  have h' : ∀ c k, rd_S c k → I' c k = I c k := fun c k q => h c k (Or.inl q)
  have hc := S_c hs
  intro b hb
  rw [c_congr h'] at hb
  have := bd_rg (b := b) (by omega)
  rw [h (am_bd b) 0 (Or.inl (by unfold rd_S; omega))]
  refine ⟨(hg b hb).1, fun i hi => ?_⟩
  rw [h 142 _ (Or.inr rfl)]
  exact (hg b hb).2 i hi
theorem U_congr {I I' : Nat → Nat → Int32} (h : ∀ c k, rd_S c k ∨ c = 149 ∨ (108 ≤ c ∧ c ≤ 127) ∨ (c = 106 ∧ (k = 5 ∨ k = 6)) ∨ (c = 139 ∧ k = 24) → I' c k = I c k) (hs : rl_S I) (hg : rl_U I) : rl_U I' := by
  have h' : ∀ c k, rd_S c k → I' c k = I c k := fun c k q => h c k (Or.inl q)
  have hc := S_c hs
  have eu : ps_u I' = ps_u I := by unfold ps_u; rw [h 106 6 (by omega)]
  have eo : ps_o I' = ps_o I := by unfold ps_o; rw [h 106 5 (by omega)]
  have e149 : I' 149 = I 149 := funext fun k => h 149 k (by omega)
  unfold rl_U at hg ⊢
  rw [eu, eo, c_congr h', e149, h 139 24 (by omega), h 106 6 (by omega), h 106 5 (by omega)]
  obtain ⟨g1, g2, g3, g4⟩ := hg
  refine ⟨g1, g2, g3, fun v hv => ?_⟩
  have er : I' (108 + (ps_o I + v) % 20) = I (108 + (ps_o I + v) % 20) := funext fun k => h _ k (by omega)
  rw [er]
  refine ⟨(g4 v hv).1, fun b hb => ?_⟩
  rw [row_congr h' (by omega)]
  exact (g4 v hv).2 b hb
theorem E_congr {I I' : Nat → Nat → Int32} (h : ∀ c k, c = 129 ∨ c = 130 ∨ c = 158 ∨ c = 159 ∨ (c = 16 ∧ k = 2) ∨ (c = 128 ∧ k ≤ 1) ∨ (c = 139 ∧ (k = 36 ∨ k = 37)) → I' c k = I c k) (hg : rl_E I) : rl_E I' := by
  unfold rl_E at hg ⊢
  rw [h 139 36 (by omega), h 128 1 (by omega), h 139 37 (by omega), h 128 0 (by omega), h 16 2 (by omega)]
  obtain ⟨g1, g2, g3, g4⟩ := hg
  refine ⟨g1, g2, g3, fun k hk => ?_⟩
  rw [h 158 k (by omega), h 129 k (by omega), h 159 k (by omega), h 130 k (by omega)]
  exact g4 k hk
theorem C_congr {n m : Nat} {I I' : Nat → Nat → Int32} (hnm : n ≤ m) (h : ∀ c k, rd_S c k ∨ c = 84 ∨ c = 85 ∨ c = 104 ∨ (c = 96 ∧ k = 8) → I' c k = I c k) (hs : rl_S I) (hg : rl_C n I) : rl_C m I' := by
  have h' : ∀ c k, rd_S c k → I' c k = I c k := fun c k q => h c k (Or.inl q)
  have hc := S_c hs
  unfold rl_C at hg ⊢
  rw [c_congr h', h 16 8 (Or.inl (by unfold rd_S; omega)), h 96 8 (by omega)]
  obtain ⟨g1, g2, g3, g4⟩ := hg
  refine ⟨⟨g1.1, by omega⟩, g2, fun a b hab hb => ?_, fun k hk => ?_⟩
  · rw [row_congr h' (by omega : a < 10), row_congr h' (by omega : b < 10), h 84 _ (by omega), h 85 _ (by omega)]
    exact g3 a b hab hb
  · rw [h 104 k (by omega)]
    exact g4 k hk
theorem Rl_mono {n : Nat} {I : Nat → Nat → Int32} {J : Nat → Nat → Int64} (h : Rl_ n I J) : Rl_ (n + 1) I J := by
  obtain ⟨h1, h2, h3, h4, h5, h6, h7, h8, h9, h10, h11, h12⟩ := h
  exact ⟨h1, h2, h3, h4, h5, h6, h7, h8, h9, h10, h11, C_congr (Nat.le_succ n) (fun _ _ _ => rfl) h6 h12⟩
/-- the large parts stay, when nothing is written that they look at -/
def ps_far_off (c k : Nat) : Prop := rd_S c k ∨ c = 150 ∨ c = 142 ∨ c = 149 ∨ (108 ≤ c ∧ c ≤ 127) ∨ (c = 106 ∧ (k = 5 ∨ k = 6)) ∨ (c = 139 ∧ (k = 24 ∨ k = 36 ∨ k = 37)) ∨ c = 129 ∨ c = 130 ∨ c = 158 ∨ c = 159 ∨ (c = 128 ∧ k ≤ 1) ∨ c = 147 ∨ c = 84 ∨ c = 85 ∨ c = 104 ∨ (c = 96 ∧ k = 8)
theorem big_congr {n : Nat} {I I' : Nat → Nat → Int32} (h : ∀ c k, ps_far_off c k → I' c k = I c k) (g : rl_S I ∧ rl_G I ∧ rl_N I ∧ rl_U I ∧ rl_E I ∧ (∀ k, k < 54 → I 147 k = ps_own.getD k 0) ∧ rl_C n I) : rl_S I' ∧ rl_G I' ∧ rl_N I' ∧ rl_U I' ∧ rl_E I' ∧ (∀ k, k < 54 → I' 147 k = ps_own.getD k 0) ∧ rl_C (n + 1) I' := by
  obtain ⟨g1, g2, g3, g4, g5, g6, g7⟩ := g
  refine ⟨S_congr (fun c k q => h c k (Or.inl q)) g1, G_congr (fun c k q => h c k ?_) g1 g2, N_congr (fun c k q => h c k ?_) g1 g3, U_congr (fun c k q => h c k ?_) g1 g4, E_congr (fun c k q => h c k ?_) g5, fun k hk => ?_, C_congr (Nat.le_succ n) (fun c k q => h c k ?_) g1 g7⟩
  · unfold ps_far_off; rcases q with q | q
    · exact Or.inl q
    · exact Or.inr (Or.inl q)
  · unfold ps_far_off; rcases q with q | q
    · exact Or.inl q
    · exact Or.inr (Or.inr (Or.inl q))
  · unfold ps_far_off; rcases q with q | q
    · exact Or.inl q
    · right; omega
  · unfold ps_far_off rd_S; omega
  · rw [h 147 k (by unfold ps_far_off; omega)]
    exact g6 k hk
  · unfold ps_far_off; rcases q with q | q
    · exact Or.inl q
    · right; omega
