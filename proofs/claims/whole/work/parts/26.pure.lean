/-! PURE ROWS: ints, changed cells, calls, loops -/
theorem up_at {α : Type} (f : Nat → Nat → α) (c k : Nat) (v : α) : am_up f c k v c k = v := by simp [am_up]
theorem up_c {α : Type} {f : Nat → Nat → α} {c k a : Nat} {v : α} (h : a ≠ c) : am_up f c k v a = f a := am_up_ne h
theorem up_k {α : Type} {f : Nat → Nat → α} {c k b : Nat} {v : α} (h : b ≠ k) : am_up f c k v c b = f c b := by simp [am_up, h]
theorem up_ck {α : Type} {f : Nat → Nat → α} {c k a b : Nat} {v : α} (h : a ≠ c ∨ b ≠ k) : am_up f c k v a b = f a b := by
  unfold am_up
  split
  · split
    · rename_i h1 h2
      rcases h with h | h
      · exact absurd h1 h
      · exact absurd h2 h
    · rfl
  · rfl
theorem up_is {α : Type} (f : Nat → Nat → α) (c k : Nat) (v : α) (a b : Nat) : am_up f c k v a b = if a = c ∧ b = k then v else f a b := by
  by_cases h : a = c ∧ b = k
  · rw [if_pos h, h.1, h.2, up_at]
  · rw [if_neg h, up_ck (by omega)]
def iI (z : Int) : Int32 := Int32.ofInt z
theorem iI_to (x : Int32) : iI x.toInt = x := Int32.ofInt_toInt x
theorem to_iI {z : Int} (h1 : -2147483648 ≤ z) (h2 : z < 2147483648) : (iI z).toInt = z := Int32.toInt_ofInt_of_le (by simpa using h1) (by simpa using h2)
theorem to_rg (x : Int32) : -2147483648 ≤ x.toInt ∧ x.toInt < 2147483648 := ⟨by have := x.le_toInt; simpa using this, by have := x.toInt_lt; simpa using this⟩
theorem iI_ex (x : Int32) : ∃ z : Int, -2147483648 ≤ z ∧ z < 2147483648 ∧ x = iI z := ⟨x.toInt, (to_rg x).1, (to_rg x).2, (iI_to x).symm⟩
theorem iI_of {x : Int32} {z : Int} (h : x.toInt = z) : x = iI z := by rw [← h, iI_to]
theorem iI_add (a b : Int) : iI a + iI b = iI (a + b) := (Int32.ofInt_add a b).symm
theorem iI_sub (a b : Int) : iI a - iI b = iI (a - b) := (Int32.ofInt_sub a b).symm
theorem iI_mul (a b : Int) : iI a * iI b = iI (a * b) := (Int32.ofInt_mul a b).symm
theorem iI_neg (a : Int) : - iI a = iI (-a) := (Int32.ofInt_neg a).symm
theorem iI_lt {a b : Int} (h1 : -2147483648 ≤ a) (h2 : a < 2147483648) (h3 : -2147483648 ≤ b) (h4 : b < 2147483648) : iI a < iI b ↔ a < b := by rw [Int32.lt_iff_toInt_lt, to_iI h1 h2, to_iI h3 h4]
theorem iI_le {a b : Int} (h1 : -2147483648 ≤ a) (h2 : a < 2147483648) (h3 : -2147483648 ≤ b) (h4 : b < 2147483648) : iI a ≤ iI b ↔ a ≤ b := by rw [Int32.le_iff_toInt_le, to_iI h1 h2, to_iI h3 h4]
theorem iI_eq {a b : Int} (h1 : -2147483648 ≤ a) (h2 : a < 2147483648) (h3 : -2147483648 ≤ b) (h4 : b < 2147483648) : iI a = iI b ↔ a = b := by rw [← Int32.toInt_inj, to_iI h1 h2, to_iI h3 h4]
theorem iI_cl {z : Int} (h1 : -2147483648 ≤ z) (h2 : z < 2147483648) : (iI z).toNatClampNeg = z.toNat := Int32.toNatClampNeg_ofInt_of_le (by simpa using h1) (by simpa using h2)
theorem iI_tdiv {a b : Int} (h1 : -2147483648 ≤ a) (h2 : a < 2147483648) (h3 : 0 < b) (h4 : b < 2147483648) : iI a / iI b = iI (a.tdiv b) := by
  refine (Int32.ofInt_tdiv ?_ ?_ ?_ ?_).symm
  · rw [Int32.toInt_minValue]; omega
  · rw [Int32.toInt_maxValue]; omega
  · rw [Int32.toInt_minValue]; omega
  · rw [Int32.toInt_maxValue]; omega
theorem iI_div {a b : Int} (h1 : 0 ≤ a) (h2 : a < 2147483648) (h3 : 0 < b) (h4 : b < 2147483648) : iI a / iI b = iI (a / b) := by
  rw [iI_tdiv (by omega) h2 h3 h4, Int.tdiv_eq_ediv_of_nonneg h1]
theorem iI_rem {a b : Int} (h1 : 0 ≤ a) (h2 : a < 2147483648) (h3 : 0 < b) (h4 : b < 2147483648) : iI a - iI a / iI b * iI b = iI (a % b) := by
  rw [iI_div h1 h2 h3 h4, iI_mul, iI_sub, Int.emod_def, Int.mul_comm]
theorem iI_remt {a b : Int} (h1 : -2147483648 ≤ a) (h2 : a < 2147483648) (h3 : 0 < b) (h4 : b < 2147483648) : iI a - iI a / iI b * iI b = iI (a.tmod b) := by
  rw [iI_tdiv h1 h2 h3 h4, iI_mul, iI_sub, Int.tmod_def, Int.mul_comm]
theorem oN (n : Nat) : Int32.ofNat n = iI n := Int32.ofInt_eq_ofNat.symm
theorem nI_iI (n : Nat) : nI n = iI n := oN n
theorem cS (k : Nat) : ((k + 1 : Nat) : Int) = (k : Int) + 1 := rfl
theorem c0 : ((0 : Nat) : Int) = 0 := rfl
theorem ix_no {z : Int} {n : Nat} (h1 : 0 ≤ z) (h2 : z < n) (h3 : z < 2147483648) : ¬ (iI z < 0 ∨ n ≤ (iI z).toNatClampNeg) := by
  rw [iI_cl (by omega) h3]
  intro q
  rcases q with q | q
  · have := (iI_lt (a := z) (b := 0) (by omega) h3 (by omega) (by omega)).mp q
    omega
  · omega
theorem l_0 : (0 : Int32) = iI 0 := rfl
theorem l_1 : (1 : Int32) = iI 1 := rfl
theorem l_m1 : (-1 : Int32) = iI (-1) := rfl
theorem l_2 : (2 : Int32) = iI 2 := rfl
theorem l_3 : (3 : Int32) = iI 3 := rfl
theorem l_4 : (4 : Int32) = iI 4 := rfl
theorem l_5 : (5 : Int32) = iI 5 := rfl
theorem l_6 : (6 : Int32) = iI 6 := rfl
theorem l_7 : (7 : Int32) = iI 7 := rfl
theorem l_8 : (8 : Int32) = iI 8 := rfl
theorem l_9 : (9 : Int32) = iI 9 := rfl
theorem l_10 : (10 : Int32) = iI 10 := rfl
theorem l_16 : (16 : Int32) = iI 16 := rfl
theorem l_20 : (20 : Int32) = iI 20 := rfl
theorem l_40 : (40 : Int32) = iI 40 := rfl
theorem l_48 : (48 : Int32) = iI 48 := rfl
theorem l_99 : (99 : Int32) = iI 99 := rfl
theorem l_200 : (200 : Int32) = iI 200 := rfl
theorem l_999 : (999 : Int32) = iI 999 := rfl
theorem l_9999 : (9999 : Int32) = iI 9999 := rfl
section BD
variable {X : am_X} {P : List (Nat × am_I)} {j : Nat} {ls st : List Value} {S : am_S} {v : Value} {d : Option (Option Value × am_S)}
theorem bd_s (h : d = some (some v, S)) : d.bind (fun q : Option Value × am_S => am_ev X P j ls (q.1.toList ++ st) q.2) = am_ev X P j ls (v :: st) S := by rw [h]; rfl
theorem bd_n (h : d = some (none, S)) : d.bind (fun q : Option Value × am_S => am_ev X P j ls (q.1.toList ++ st) q.2) = am_ev X P j ls st S := by rw [h]; rfl
end BD
/-- a loop whose state at each turn is known -/
theorem lp {α : Type} {n : Nat} (G : Nat → α) (h : ∀ k, k < n → G k = G (k + 1)) : ∀ k, k ≤ n → G 0 = G k := by
  intro k
  induction k with
  | zero => intro _; rfl
  | succ k ih => intro hk; rw [ih (by omega), h k (by omega)]
/-- .. with rests in it -/
theorem lpj {α β : Type} {n : Nat} (ok : β → Prop) (G : Nat → β → α) (h : ∀ k, k < n → ∀ w, ok w → ∃ w', ok w' ∧ G k w = G (k + 1) w') : ∀ k, k ≤ n → ∀ w, ok w → ∃ w', ok w' ∧ G 0 w = G k w' := by
  intro k
  induction k with
  | zero => intro _ w hw; exact ⟨w, hw, rfl⟩
  | succ k ih =>
    intro hk w hw
    obtain ⟨w1, h1, e1⟩ := ih (by omega) w hw
    obtain ⟨w2, h2, e2⟩ := h k (by omega) w1 h1
    exact ⟨w2, h2, e1.trans e2⟩
/-- .. with what holds at each turn -/
theorem lpi {α β : Type} {n : Nat} (Iv : Nat → β → Prop) (G : Nat → β → α) (h : ∀ k, k < n → ∀ w, Iv k w → ∃ w', Iv (k + 1) w' ∧ G k w = G (k + 1) w') : ∀ k, k ≤ n → ∀ w, Iv 0 w → ∃ w', Iv k w' ∧ G 0 w = G k w' := by
  intro k
  induction k with
  | zero => intro _ w hw; exact ⟨w, hw, rfl⟩
  | succ k ih =>
    intro hk w hw
    obtain ⟨w1, h1, e1⟩ := ih (by omega) w hw
    obtain ⟨w2, h2, e2⟩ := h k (by omega) w1 h1
    exact ⟨w2, h2, e1.trans e2⟩
/-- the first of some numbers -/
theorem fst_ex {p : Nat → Prop} : ∀ n : Nat, (∃ k, k < n ∧ p k) → ∃ k, k < n ∧ p k ∧ ∀ j, j < k → ¬ p j := by
  intro n
  induction n with
  | zero => rintro ⟨k, hk, _⟩; omega
  | succ n ih =>
    rintro ⟨k, hk, hp⟩
    by_cases h : ∃ k, k < n ∧ p k
    · obtain ⟨k', h1, h2, h3⟩ := ih h
      exact ⟨k', by omega, h2, h3⟩
    · refine ⟨k, hk, hp, fun j hj hpj => h ⟨j, by omega, hpj⟩⟩
/-! frames: cells that may change -/
def Fr (W : Nat → Nat → Bool) (I I' : Nat → Nat → Int32) : Prop := ∀ c k, W c k = false → I' c k = I c k
theorem Fr_rfl {W : Nat → Nat → Bool} {I : Nat → Nat → Int32} : Fr W I I := fun _ _ _ => rfl
theorem Fr_tr {W : Nat → Nat → Bool} {I I1 I2 : Nat → Nat → Int32} (h : Fr W I I1) (h2 : Fr W I1 I2) : Fr W I I2 := fun c k q => (h2 c k q).trans (h c k q)
theorem Fr_up {W : Nat → Nat → Bool} {I I1 : Nat → Nat → Int32} {c k : Nat} {v : Int32} (h : Fr W I I1) (hw : W c k = true) : Fr W I (am_up I1 c k v) := fun a b q => by
  rw [up_ck ?_]
  · exact h a b q
  · by_cases h1 : a = c
    · right
      intro h2
      rw [h1, h2, hw] at q
      cases q
    · exact Or.inl h1
theorem Fr_mono {W V : Nat → Nat → Bool} {I I' : Nat → Nat → Int32} (h : Fr W I I') (hv : ∀ c k, V c k = false → W c k = false) : Fr V I I' := fun c k q => h c k (hv c k q)
def rf1 (I : Nat → Nat → Int32) (k : Nat) : Nat → Nat → Int32 := am_up I 138 k (I 138 k + 1)
def rf2 (I : Nat → Nat → Int32) (k : Nat) : Nat → Nat → Int32 := am_up I 146 k (I 146 k + 1)
theorem rf1_ne {I : Nat → Nat → Int32} {k c j : Nat} (h : c ≠ 138) : rf1 I k c j = I c j := up_ck (Or.inl h)
theorem rf2_ne {I : Nat → Nat → Int32} {k c j : Nat} (h : c ≠ 146) : rf2 I k c j = I c j := up_ck (Or.inl h)
section C0
variable (X : am_X) (I : Nat → Nat → Int32) (J : Nat → Nat → Int64)
/-- refuse(k) of the class, refuses(k), isRefused(k) of the model -/
theorem c_208 {k : Nat} (h : k < 6) : am_do X 208 [.ref 0, .int (iI k)] (am_sh I J) = some (some (.int (-1)), am_sh (rf1 I k) J) := by
  have e3 : (iI k).toNatClampNeg = k := by rw [iI_cl (by omega) (by omega)]; omega
  have e1 : ¬ iI k < 0 := by rw [l_0, iI_lt (by omega) (by omega) (by omega) (by omega)]; omega
  have e2 : ¬ (Int32.ofNat 6 : Int32) ≤ iI k := by rw [oN, iI_le (by omega) (by omega) (by omega) (by omega)]; omega
  have ex := ix_no (z := k) (n := 6) (by omega) (by omega) (by omega)
  rw [cl_208, sg_208_e0, if_neg e1, if_neg e2, if_neg ex, if_neg ex, e3]
  rfl
theorem c_218 {k : Nat} (h : k < 6) : am_do X 218 [.ref 139, .int (iI k)] (am_sh I J) = some (some (.int (-1)), am_sh (rf2 I k) J) := by
  have e3 : (iI k).toNatClampNeg = k := by rw [iI_cl (by omega) (by omega)]; omega
  have ex := ix_no (z := k) (n := 6) (by omega) (by omega) (by omega)
  rw [cl_218, sg_218_e0, if_neg ex, if_neg ex, e3]
  rfl
theorem c_219 {k : Nat} (h : k < 6) : am_do X 219 [.ref 139, .int (iI k)] (am_sh I J) = some (some (.int 0), am_sh (rf2 I k) J) := by
  have e3 : (iI k).toNatClampNeg = k := by rw [iI_cl (by omega) (by omega)]; omega
  have ex := ix_no (z := k) (n := 6) (by omega) (by omega) (by omega)
  rw [cl_219, sg_219_e0, if_neg ex, if_neg ex, e3]
  rfl
theorem c_214 (x l h : Int32) : am_do X 214 [.int x, .int l, .int h] (am_sh I J) = some (some (.int (if l ≤ x ∧ x ≤ h then 1 else 0)), am_sh I J) := by
  rw [cl_214, sg_214_e0]
  by_cases h1 : x < l
  · rw [if_pos h1, if_neg (fun z => Int32.not_le.mpr h1 z.1)]
  · rw [if_neg h1]
    by_cases h2 : h < x
    · rw [if_pos h2, if_neg (fun z => Int32.not_le.mpr h2 z.2)]
    · rw [if_neg h2, if_pos ⟨Int32.not_lt.mp h1, Int32.not_lt.mp h2⟩]
theorem c_214i {a l h : Int} (h1 : -2147483648 ≤ a) (h2 : a < 2147483648) (h3 : -2147483648 ≤ l) (h4 : l < 2147483648) (h5 : -2147483648 ≤ h) (h6 : h < 2147483648) : am_do X 214 [.int (iI a), .int (iI l), .int (iI h)] (am_sh I J) = some (some (.int (if l ≤ a ∧ a ≤ h then 1 else 0)), am_sh I J) := by
  simp only [c_214, iI_le h3 h4 h1 h2, iI_le h1 h2 h5 h6]
end C0
