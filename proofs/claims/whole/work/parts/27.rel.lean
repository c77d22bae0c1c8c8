/-! WHERE A BODY IS, of a row f of its numbers (0 LOW, 1 HIGH, 2 TURN, 3 PHASE, 4 LIFT, 5 TILT, 6 NODE, 7 FUEL, 8 UP) -/
def ps_ok (f : Nat → Int) : Prop := (1 ≤ f 0 ∧ f 0 ≤ f 1 ∧ f 1 ≤ 200) ∧ (2 ≤ f 2 ∧ f 2 ≤ 48) ∧ (0 ≤ f 3 ∧ f 3 < f 2) ∧ (0 ≤ f 4 ∧ f 4 < f 2) ∧ (0 ≤ f 5 ∧ f 5 ≤ 16) ∧ (0 ≤ f 6 ∧ f 6 ≤ 3) ∧ (0 ≤ f 7 ∧ f 7 ≤ 99) ∧ (0 ≤ f 8 ∧ f 8 ≤ 1)
/-- HEIGHT at a step -/
def ps_r (f : Nat → Int) (s : Int) : Int := (s + f 4) % f 2
def ps_h (f : Nat → Int) (s : Int) : Int := f 0 + 2 * (f 1 - f 0) * min (ps_r f s) (f 2 - ps_r f s) / f 2
def ps_w (f : Nat → Int) (s : Int) : Int := 4 * s * ps_h f s / f 2
def rg_p (w h : Int) : Int := if w ≤ h then h - w else if w ≤ 2 * h then h - w else w - 3 * h
def rg_q (w h : Int) : Int := if w ≤ h then w else if w ≤ 2 * h then 2 * h - w else if w ≤ 3 * h then 2 * h - w else w - 4 * h
def ps_p (f : Nat → Int) (s : Int) : Int := rg_p (ps_w f s) (ps_h f s)
def ps_q (f : Nat → Int) (s : Int) : Int := rg_q (ps_w f s) (ps_h f s)
def ps_f (f : Nat → Int) (s : Int) : Int := (ps_q f s * (16 - f 5)).tdiv 16
def ps_x (f : Nat → Int) (s : Int) : Int := if f 6 = 0 then ps_p f s else if f 6 = 1 then - ps_f f s else if f 6 = 2 then - ps_p f s else ps_f f s
def ps_y (f : Nat → Int) (s : Int) : Int := if f 6 = 0 then ps_f f s else if f 6 = 1 then ps_p f s else if f 6 = 2 then - ps_f f s else - ps_p f s
def ps_z (f : Nat → Int) (s : Int) : Int := (ps_q f s * f 5).tdiv 16
/-- the step at a tick -/
def ps_s (f : Nat → Int) (t : Int) : Int := (f 3 + t) % f 2
/-- how FAR two are at their steps, at a tick; their CYCLE; the first tick of the least FAR -/
def sq_ (x y z : Int) : Int := x * x + y * y + z * z
def ps_d (f g : Nat → Int) (s u : Int) : Int := sq_ (ps_x f s - ps_x g u) (ps_y f s - ps_y g u) (ps_z f s - ps_z g u)
def ps_far (f g : Nat → Int) (t : Int) : Int := ps_d f g (ps_s f t) (ps_s g t)
def ps_cy (f g : Nat → Int) : Nat := Nat.lcm (f 2).toNat (g 2).toNat
def ps_ct (f g : Nat → Int) : Nat → Nat
  | 0 => 0
  | n + 1 => if ps_far f g ((n + 1 : Nat) : Int) < ps_far f g ((ps_ct f g n : Nat) : Int) then n + 1 else ps_ct f g n
def ps_cl (f g : Nat → Int) : Nat := ps_ct f g (ps_cy f g - 1)
def ps_lf (f g : Nat → Int) : Int := ps_far f g ((ps_cl f g : Nat) : Int)
/-- LEAN, in the window; shells off; by which sieve -/
def ps_ln (f g : Nat → Int) (s : Int) : Int := (16 - g 5) * ps_z f s - g 5 * (if g 6 = 0 then ps_y f s else if g 6 = 1 then - ps_x f s else if g 6 = 2 then - ps_y f s else ps_x f s)
def ps_in (e : Int) (f g : Nat → Int) (t : Int) : Prop := -(16 * e + 16) ≤ ps_ln f g (ps_s f t) ∧ ps_ln f g (ps_s f t) ≤ 16 * e + 16
def ps_off (e : Int) (f g : Nat → Int) : Prop := (0 < f 0 - g 1 ∧ 3 * (e * e) < (f 0 - g 1 - 1) * (f 0 - g 1 - 1)) ∨ (0 < g 0 - f 1 ∧ 3 * (e * e) < (g 0 - f 1 - 1) * (g 0 - f 1 - 1))
def sv_is (e : Int) (f g : Nat → Int) (v : Int) : Prop := (v = 1 ∧ ps_off e f g) ∨ (¬ ps_off e f g ∧ ((v = 2 ∧ ((∀ t : Nat, (t : Int) < f 2 → ¬ ps_in e f g t) ∨ (∀ t : Nat, (t : Int) < g 2 → ¬ ps_in e g f t))) ∨ ((∃ t : Nat, (t : Int) < f 2 ∧ ps_in e f g t) ∧ (∃ t : Nat, (t : Int) < g 2 ∧ ps_in e g f t) ∧ ((v = 3 ∧ ∀ t : Nat, t < ps_cy f g → ¬ (ps_in e f g t ∧ ps_in e g f t)) ∨ (v = 0 ∧ ∃ t : Nat, t < ps_cy f g ∧ ps_in e f g t ∧ ps_in e g f t)))))
/-! A SKY in numbers: how many bodies, their rows, GAP, SIZE, NOW -/
abbrev Sk : Type := Nat × (Nat → Nat → Int) × Int × Int × Int
def kn (K : Sk) : Nat := K.1
def kf (K : Sk) : Nat → Nat → Int := K.2.1
def ke (K : Sk) : Int := K.2.2.1
def kz (K : Sk) : Int := K.2.2.2.1
def kt (K : Sk) : Int := K.2.2.2.2
/-- .. with another row -/
def ks (K : Sk) (b : Nat) (f : Nat → Int) : Sk := (K.1, fun c => if c = b then f else K.2.1 c, K.2.2)
/-- NEAR by a gap, were both UP -/
def nr_ (e : Int) (f g : Nat → Int) : Prop := ∃ t : Nat, t < ps_cy f g ∧ ps_far f g t ≤ e * e
/-- a body b with the row f is near none; none are near -/
def cl1 (K : Sk) (b : Nat) (f : Nat → Int) : Prop := ∀ o, o < kn K → o ≠ b → kf K o 8 = 1 → ¬ nr_ (ke K) f (kf K o)
def cl2 (K : Sk) : Prop := ∀ a c, a < c → c < kn K → kf K a 8 = 1 → kf K c 8 = 1 → ¬ nr_ (ke K) (kf K a) (kf K c)
/-- UP behind k ticks ahead -/
def al_ (K : Sk) : Nat → Nat → Prop
  | 0, b => b < kn K ∧ kf K b 8 = 1
  | k + 1, b => al_ K k b ∧ ∀ o, o ≠ b → al_ K k o → kz K * kz K < ps_far (kf K b) (kf K o) (kt K + k)
/-- BURNS: what one costs, whether it can be, the row behind it -/
def bn_c (f : Nat → Int) (k d : Int) : Int := if k ≤ 1 then min d (f 2 - d) else if k ≤ 3 then 2 * d else 3 * d
def bn_o (f : Nat → Int) (k d : Int) : Prop := (0 ≤ k ∧ k ≤ 5) ∧ (1 ≤ d ∧ d ≤ 200) ∧ (k ≤ 1 → d < f 2) ∧ (k = 2 → f 1 + d ≤ 200) ∧ (k = 3 → 1 ≤ f 0 - d) ∧ (k = 4 → f 5 + d ≤ 16) ∧ (k = 5 → 0 ≤ f 5 - d)
def bn_k (f : Nat → Int) (k d : Int) : Prop := bn_o f k d ∧ bn_c f k d ≤ f 7
def bn_f (f : Nat → Int) (k d : Int) : Nat → Int := fun j => if j = 7 then f 7 - bn_c f k d else if j = 3 then (if k = 0 then (f 3 + d) % f 2 else f 3) else if j = 4 then (if k = 1 then (f 4 + d) % f 2 else f 4) else if j = 5 then (if k = 4 then f 5 + d else if k = 5 then f 5 - d else f 5) else if j = 0 then (if k = 2 then f 0 + d else if k = 3 then f 0 - d else f 0) else if j = 1 then (if k = 2 then f 1 + d else if k = 3 then f 1 - d else f 1) else f j
/-- burns that reach a goal: 0 SAVES b, 1 CLEARS b, 2 CLEARS THE LIST -/
def gd_ (K : Sk) (goal b : Int) (a : Nat) (k d : Int) : Prop := (a < kn K ∧ kf K a 8 = 1) ∧ bn_k (kf K a) k d ∧ ((goal = 0 ∧ b = a ∧ ¬ al_ K 400 a ∧ al_ (ks K a (bn_f (kf K a) k d)) 400 a) ∨ (goal = 1 ∧ b = a ∧ ¬ cl1 K a (kf K a) ∧ cl1 K a (bn_f (kf K a) k d)) ∨ (goal = 2 ∧ ¬ cl2 K ∧ cl2 (ks K a (bn_f (kf K a) k d))))
/-- the first by cost, body, kind, d -/
def lx4 (c a k d c' a' k' d' : Int) : Prop := c < c' ∨ (c = c' ∧ (a < a' ∨ (a = a' ∧ (k < k' ∨ (k = k' ∧ d ≤ d')))))
def bst (K : Sk) (goal b : Int) (a : Nat) (k d : Int) : Prop := gd_ K goal b a k d ∧ ∀ (a' : Nat) (k' d' : Int), gd_ K goal b a' k' d' → lx4 (bn_c (kf K a) k d) a k d (bn_c (kf K a') k' d') a' k' d'
/-- two burns that clear b; the first of them -/
def g2_ (K : Sk) (b : Nat) (k d k2 d2 : Int) : Prop := (b < kn K ∧ kf K b 8 = 1) ∧ ¬ cl1 K b (kf K b) ∧ (d ≤ 5 ∧ d2 ≤ 5) ∧ bn_k (kf K b) k d ∧ bn_k (bn_f (kf K b) k d) k2 d2 ∧ cl1 K b (bn_f (bn_f (kf K b) k d) k2 d2)
def c2_ (f : Nat → Int) (k d k2 d2 : Int) : Int := bn_c f k d + bn_c f k2 d2
def lx5 (c a k d m c' a' k' d' m' : Int) : Prop := c < c' ∨ (c = c' ∧ (a < a' ∨ (a = a' ∧ (k < k' ∨ (k = k' ∧ (d < d' ∨ (d = d' ∧ m ≤ m')))))))
def bs2 (K : Sk) (b : Nat) (k d k2 d2 : Int) : Prop := g2_ K b k d k2 d2 ∧ ∀ k' d' k2' d2' : Int, g2_ K b k' d' k2' d2' → lx5 (c2_ (kf K b) k d k2 d2) k d k2 d2 (c2_ (kf K b) k' d' k2' d2') k' d' k2' d2'
/-- what the latest search has found: is it found (v), its row (r), for a goal and a body -/
def LQ (K : Sk) (v : Int32) (goal b : Int) (r : Nat → Int32) : Prop :=
  (0 ≤ goal → goal ≤ 2 → (v = 0 ∧ ∀ (a : Nat) (k d : Int), ¬ gd_ K goal b a k d) ∨ (v = 1 ∧ ∃ (a : Nat) (k d : Int), bst K goal b a k d ∧ r 0 = iI a ∧ r 1 = iI k ∧ r 2 = iI d ∧ r 3 = iI (bn_c (kf K a) k d))) ∧
  (goal = 3 → (v = 0 ∧ ∀ k d k2 d2 : Int, ¬ g2_ K b.toNat k d k2 d2) ∨ (v = 1 ∧ ∃ k d k2 d2 : Int, bs2 K b.toNat k d k2 d2 ∧ r 0 = iI k ∧ r 1 = iI d ∧ r 2 = iI k2 ∧ r 3 = iI d2 ∧ r 4 = iI (c2_ (kf K b.toNat) k d k2 d2)))
/-! THE TWO IN STEP -/
/-- the row of a body: in the class; in a saved row of the class; in the model -/
def cr (I : Nat → Nat → Int32) (b : Nat) : Nat → Int := fun k => if k < 9 then (I (am_bd b + 1) k).toInt else 0
def sr (u : Nat → Int32) (b : Nat) : Nat → Int := fun k => if k < 9 then (u (9 * b + k)).toInt else 0
def mrw (m tn nd : Nat → Int32) (b : Nat) : Nat → Int := fun k => if k = 0 then (m (7 * b + 3)).toInt else if k = 1 then (m (7 * b + 4)).toInt else if k = 2 then (tn b).toInt else if k = 3 then (m (7 * b + 5)).toInt else if k = 4 then (m (7 * b + 6)).toInt else if k = 5 then (m (7 * b + 7)).toInt else if k = 6 then (nd b).toInt else if k = 7 then (m (7 * b + 8)).toInt else if k = 8 then (m (7 * b + 9)).toInt else 0
def mr (I : Nat → Nat → Int32) (b : Nat) : Nat → Int := mrw (I 148) (I 140) (I 141) b
/-- the ring of a body of the class (10: the tried one), by steps; of one of the model, by ticks -/
def rg (I : Nat → Nat → Int32) (b : Nat) : Prop := ∀ s : Nat, (s : Int) < cr I b 2 → I (am_bd b + 2) s = iI (ps_x (cr I b) s) ∧ I (am_bd b + 3) s = iI (ps_y (cr I b) s) ∧ I (am_bd b + 4) s = iI (ps_z (cr I b) s) ∧ I (am_bd b + 5) s = iI (ps_h (cr I b) s)
def mg (I : Nat → Nat → Int32) (b : Nat) : Prop := ∀ t : Nat, (t : Int) < mr I b 2 → I 150 (4 * (48 * b + t)) = iI (ps_x (mr I b) (ps_s (mr I b) t)) ∧ I 150 (4 * (48 * b + t) + 1) = iI (ps_y (mr I b) (ps_s (mr I b) t)) ∧ I 150 (4 * (48 * b + t) + 2) = iI (ps_z (mr I b) (ps_s (mr I b) t)) ∧ I 150 (4 * (48 * b + t) + 3) = iI (ps_h (mr I b) (ps_s (mr I b) t))
/-- a body of the class stands -/
def CB (I : Nat → Nat → Int32) (b : Nat) : Prop := ps_ok (cr I b) ∧ I (am_bd b) 1 = iI (cr I b 2) ∧ rg I b
def cn (I : Nat → Nat → Int32) : Nat := (I 16 2).toInt.toNat
/-- the class's sky stands: told, how many, GAP, SIZE, NOW, KEPT; bodies -/
def CW (I : Nat → Nat → Int32) : Prop := (I 16 2 = iI (cn I) ∧ cn I ≤ 10) ∧ (∃ z : Int, I 16 3 = iI z ∧ 0 ≤ z ∧ z ≤ 99) ∧ (∃ z : Int, I 16 4 = iI z ∧ 0 ≤ z ∧ z ≤ 20) ∧ (∃ z : Int, I 16 5 = iI z ∧ 0 ≤ z ∧ z ≤ 9999) ∧ (∃ z : Int, I 16 6 = iI z ∧ 0 ≤ z ∧ z ≤ 40) ∧ ∀ b, b < cn I → CB I b
def mn (I : Nat → Nat → Int32) : Nat := (I 139 1).toInt.toNat
def MW (I : Nat → Nat → Int32) : Prop := (I 139 1 = iI (mn I) ∧ mn I ≤ 10) ∧ ∀ b, b < mn I → ps_ok (mr I b) ∧ mg I b
/-- the tape -/
def rl_T (I : Nat → Nat → Int32) : Prop := I 139 12 = I 1 1 ∧ 0 ≤ (I 1 1).toInt ∧ (I 1 1).toInt ≤ 1600 ∧ ∀ k : Nat, (k : Int) < (I 1 1).toInt → I 145 k = I 2 k ∧ 0 ≤ (I 2 k).toInt ∧ (I 2 k).toInt ≤ 255
/-- the image -/
def rl_M (I : Nat → Nat → Int32) : Prop := I 139 43 = I 133 1 ∧ 0 ≤ (I 133 1).toInt ∧ (I 133 1).toInt ≤ 72 ∧ ∀ k : Nat, (k : Int) < (I 133 1).toInt → I 161 k = I 134 k
/-- the sky as it is -/
def rl_S (I : Nat → Nat → Int32) : Prop := (I 16 1 = 0 ∨ I 16 1 = 1) ∧ I 139 0 = I 16 1 ∧ I 139 1 = I 16 2 ∧ I 139 2 = I 16 4 ∧ I 148 0 = I 16 3 ∧ I 148 1 = I 16 5 ∧ I 148 2 = I 16 6 ∧ (∀ j : Nat, (j : Int) < 2 * (I 16 6).toInt → I 148 (73 + j) = I 18 j) ∧ (I 16 1 = 0 → I 16 2 = 0 ∧ I 16 3 = 0 ∧ I 16 4 = 0 ∧ I 16 5 = 0 ∧ I 16 6 = 0 ∧ I 106 6 = 0 ∧ I 128 1 = 0) ∧ ∀ b, b < cn I → mr I b = cr I b
/-- names: a code of six letters, five bits each -/
def rl_N (I : Nat → Nat → Int32) : Prop := ∀ b, b < cn I → (0 < (I (am_bd b) 0).toInt ∧ (I (am_bd b) 0).toInt < 1073741824) ∧ ∀ i, i < 6 → I 142 (6 * b + i) = iI ((I (am_bd b) 0).toInt / 2 ^ (5 * i) % 32)
/-- a row u that the class has saved and one m of the model -/
def sn_ (c : Nat) (tn nd u m : Nat → Int32) : Prop := (∀ b, b < c → mrw m tn nd b = sr u b ∧ ps_ok (sr u b)) ∧ (u 90 = m 0 ∧ ∃ z : Int, u 90 = iI z ∧ 0 ≤ z ∧ z ≤ 99) ∧ (u 91 = m 1 ∧ ∃ z : Int, u 91 = iI z ∧ 0 ≤ z ∧ z ≤ 9999) ∧ (u 92 = m 2 ∧ ∃ z : Int, u 92 = iI z ∧ 0 ≤ z ∧ z ≤ 40) ∧ ∀ j : Nat, (j : Int) < 2 * (u 92).toInt → m (73 + j) = u (93 + j)
def un (I : Nat → Nat → Int32) : Nat := (I 106 6).toInt.toNat
def uo (I : Nat → Nat → Int32) : Nat := (I 106 5).toInt.toNat
/-- what can be undone -/
def rl_U (I : Nat → Nat → Int32) : Prop := I 139 24 = I 106 6 ∧ (I 106 6 = iI (un I) ∧ un I ≤ 20) ∧ (I 106 5 = iI (uo I) ∧ uo I < 20) ∧ ∀ v, v < un I → sn_ (cn I) (I 140) (I 141) (I (108 + (uo I + v) % 20)) (fun j => I 149 (153 * v + j))
/-- what is seen -/
def rl_E (I : Nat → Nat → Int32) : Prop := I 139 36 = I 128 1 ∧ (0 ≤ (I 128 1).toInt ∧ (I 128 1).toInt ≤ 16) ∧ (0 < (I 128 1).toInt → I 139 37 = I 128 0 ∧ 0 ≤ (I 128 0).toInt ∧ (I 128 0).toInt < (I 16 2).toInt) ∧ ∀ k : Nat, (k : Int) < (I 128 1).toInt → I 158 k = I 129 k ∧ I 159 k = I 130 k ∧ (0 ≤ (I 129 k).toInt ∧ (I 129 k).toInt ≤ 255) ∧ (0 ≤ (I 130 k).toInt ∧ (I 130 k).toInt ≤ 3)
/-- the model's own letters of the own words -/
def ps_own : List Int32 := [7, 1, 16, 0, 19, 9, 26, 5, 0, 2, 15, 4, 25, 0, 12, 15, 23, 0, 8, 9, 7, 8, 0, 20, 21, 18, 14, 0, 16, 8, 1, 19, 5, 0, 12, 9, 6, 20, 0, 20, 9, 12, 20, 0, 14, 15, 4, 5, 0, 6, 21, 5, 12, 0]
/-- what the class keeps of pairs, sieves, searches; how often things have changed -/
def rl_C (I : Nat → Nat → Int32) : Prop :=
  (∀ a b, a < b → b < cn I → I 84 (10 * a + b) = -1 ∨ (I 84 (10 * a + b) = iI (ps_lf (cr I a) (cr I b)) ∧ I 85 (10 * a + b) = iI (ps_cl (cr I a) (cr I b)))) ∧
  (∀ a b, a < b → b < cn I → I 80 (10 * a + b) = -1 ∨ ∃ v : Int, I 80 (10 * a + b) = iI v ∧ sv_is (I 16 3).toInt (cr I a) (cr I b) v) ∧
  ∀ k, k < 10 → 0 ≤ (I 104 k).toInt ∧ (I 104 k).toInt < 48
/-- the sky of the class, in numbers -/
def kI (I : Nat → Nat → Int32) : Sk := (cn I, fun b => if b < cn I then cr I b else fun _ => 0, (I 16 3).toInt, (I 16 4).toInt, (I 16 5).toInt)
/-- how often the sky has changed; the last search -/
def rl_L (I : Nat → Nat → Int32) : Prop := I 96 8 = I 16 8 → LQ (kI I) (I 96 5) (I 96 6).toInt (I 96 7).toInt (I 103)
def rl_V (n : Nat) (I : Nat → Nat → Int32) : Prop := (0 ≤ (I 16 8).toInt ∧ (I 16 8).toInt ≤ 2 * n) ∧ (I 96 8).toInt ≤ (I 16 8).toInt ∧ rl_L I
def rl_R (I : Nat → Nat → Int32) : Prop := ∀ k, k < 6 → I 146 k = I 138 k
def rl_W (I : Nat → Nat → Int32) : Prop := ∀ k, k < 54 → I 147 k = ps_own.getD k 0
def rl_D (I : Nat → Nat → Int32) : Prop := I 139 41 = I 106 7 ∧ 0 ≤ (I 106 7).toInt
def rl_F (I : Nat → Nat → Int32) : Prop := I 139 14 = I 3 0 ∧ I 139 15 = I 3 1
/-- class and model in step behind n calls -/
def Rl_ (n : Nat) (I : Nat → Nat → Int32) (_ : Nat → Nat → Int64) : Prop := rl_T I ∧ rl_F I ∧ rl_R I ∧ rl_D I ∧ rl_M I ∧ rl_W I ∧ CW I ∧ MW I ∧ rl_S I ∧ rl_N I ∧ rl_U I ∧ rl_E I ∧ rl_C I ∧ rl_V n I
/-! what each part looks at -/
theorem bd_rg {b : Nat} (h : b < 10) : 19 ≤ am_bd b ∧ am_bd b + 5 ≤ 78 := by
  unfold am_bd
  rw [if_pos h]
  omega
section CG
variable {I I' : Nat → Nat → Int32}
theorem cr_congr {b : Nat} (h : ∀ k, I' (am_bd b + 1) k = I (am_bd b + 1) k) : cr I' b = cr I b := by
  funext k
  unfold cr
  rw [h]
theorem mr_congr {b : Nat} (h0 : ∀ k, I' 148 k = I 148 k) (h1 : ∀ k, I' 140 k = I 140 k) (h2 : ∀ k, I' 141 k = I 141 k) : mr I' b = mr I b := by
  unfold mr mrw
  simp only [h0, h1, h2]
theorem CB_congr {b : Nat} (h : ∀ o, o ≤ 5 → ∀ k, I' (am_bd b + o) k = I (am_bd b + o) k) (g : CB I b) : CB I' b := by
  have e := cr_congr (h 1 (by omega))
  unfold CB rg at g ⊢
  have h0 := h 0 (by omega)
  rw [Nat.add_zero] at h0
  rw [e, h0]
  simp only [h 2 (by omega), h 3 (by omega), h 4 (by omega), h 5 (by omega)]
  exact g
theorem CW_congr (h1 : ∀ k, k ≤ 6 → I' 16 k = I 16 k) (h2 : ∀ c, 19 ≤ c → c ≤ 78 → ∀ k, I' c k = I c k) (g : CW I) : CW I' := by
  have e : cn I' = cn I := by unfold cn; rw [h1 2 (by omega)]
  unfold CW at g ⊢
  rw [e, h1 2 (by omega), h1 3 (by omega), h1 4 (by omega), h1 5 (by omega), h1 6 (by omega)]
  refine ⟨g.1, g.2.1, g.2.2.1, g.2.2.2.1, g.2.2.2.2.1, fun b hb => CB_congr (fun o ho k => ?_) (g.2.2.2.2.2 b hb)⟩
  have := g.1.2
  have := bd_rg (b := b) (by omega)
  exact h2 _ (by omega) (by omega) _
theorem MW_congr (h1 : I' 139 1 = I 139 1) (h2 : ∀ k, I' 140 k = I 140 k) (h3 : ∀ k, I' 141 k = I 141 k) (h4 : ∀ k, I' 148 k = I 148 k) (h5 : ∀ k, I' 150 k = I 150 k) (g : MW I) : MW I' := by
  have e : mn I' = mn I := by unfold mn; rw [h1]
  unfold MW at g ⊢
  rw [e, h1]
  refine ⟨g.1, fun b hb => ?_⟩
  unfold mg
  rw [mr_congr h4 h2 h3]
  simp only [h5]
  exact g.2 b hb
end CG
/-- cells in which nothing is kept for later, of the class, of the model -/
def W_c (c k : Nat) : Bool := (Nat.ble 81 c && Nat.ble c 82) || (Nat.ble 86 c && Nat.ble c 95) || (Nat.ble 97 c && Nat.ble c 102) || (Nat.beq c 96 && Nat.beq k 9) || (Nat.beq c 128 && Nat.ble 2 k) || Nat.beq c 131 || Nat.beq c 132 || Nat.beq c 135 || Nat.beq c 136 || Nat.beq c 137 || (Nat.beq c 3 && Nat.ble 2 k) || (Nat.ble 4 c && Nat.ble c 15)
def W_m (c k : Nat) : Bool := (Nat.beq c 139 && !(Nat.ble k 2 || Nat.beq k 12 || Nat.beq k 14 || Nat.beq k 15 || Nat.beq k 24 || Nat.beq k 36 || Nat.beq k 37 || Nat.beq k 41 || Nat.beq k 43)) || Nat.beq c 143 || Nat.beq c 144 || (Nat.ble 151 c && Nat.ble c 157) || Nat.beq c 160
def W_0 (c k : Nat) : Bool := W_c c k || W_m c k
theorem W0_c {c k : Nat} (h : W_c c k = true) : W_0 c k = true := by unfold W_0; rw [h]; rfl
theorem W0_m {c k : Nat} (h : W_m c k = true) : W_0 c k = true := by unfold W_0; rw [h, Bool.or_true]
theorem Fr_c {I I' : Nat → Nat → Int32} (h : Fr W_c I I') : Fr W_0 I I' := fun c k q => h c k (by
  unfold W_0 at q
  exact (Bool.or_eq_false_iff.mp q).1)
theorem Fr_m {I I' : Nat → Nat → Int32} (h : Fr W_m I I') : Fr W_0 I I' := fun c k q => h c k (by
  unfold W_0 at q
  exact (Bool.or_eq_false_iff.mp q).2)
def W_1 (c k : Nat) : Bool := W_0 c k || Nat.ble c 3 || Nat.beq c 138 || Nat.beq c 146 || Nat.beq c 145 || Nat.beq c 134 || Nat.beq c 161 || (Nat.beq c 133 && Nat.beq k 1) || (Nat.beq c 106 && Nat.beq k 7) || (Nat.beq c 139 && (Nat.beq k 12 || Nat.beq k 14 || Nat.beq k 15 || Nat.beq k 41 || Nat.beq k 43))
theorem W1_0 {c k : Nat} (h : W_0 c k = true) : W_1 c k = true := by unfold W_1; rw [h]; rfl
theorem Fr_01 {I I' : Nat → Nat → Int32} (h : Fr W_0 I I') : Fr W_1 I I' := fun c k q => h c k (by
  cases hw : W_0 c k with
  | false => rfl
  | true => rw [W1_0 hw] at q; cases q)
def W_b (c : Nat) : Bool := Nat.ble c 3 || Nat.beq c 138 || Nat.beq c 146 || Nat.beq c 145 || Nat.beq c 134 || Nat.beq c 161 || Nat.beq c 133 || Nat.beq c 106 || Nat.beq c 139 || (Nat.ble 81 c && Nat.ble c 82) || (Nat.ble 86 c && Nat.ble c 95) || (Nat.ble 97 c && Nat.ble c 102) || Nat.beq c 96 || Nat.beq c 128 || Nat.beq c 131 || Nat.beq c 132 || Nat.beq c 135 || Nat.beq c 136 || Nat.beq c 137 || (Nat.ble 4 c && Nat.ble c 15) || Nat.beq c 143 || Nat.beq c 144 || (Nat.ble 151 c && Nat.ble c 157) || Nat.beq c 160
theorem W1_b {c k : Nat} (h : W_b c = false) : W_1 c k = false := by
  have e3 : Nat.ble c 3 = false → Nat.beq c 3 = false := by
    intro q
    cases hh : Nat.beq c 3 with
    | false => rfl
    | true =>
      have := Nat.eq_of_beq_eq_true hh
      subst this
      cases q
  unfold W_b at h
  unfold W_1 W_0 W_c W_m
  simp only [Bool.or_eq_false_iff, Bool.and_eq_false_iff] at h ⊢
  simp only [h, e3, true_or, or_true, and_self, and_true, true_and]
theorem W0_1 {c k : Nat} (h : W_1 c k = false) : W_0 c k = false := by
  cases hw : W_0 c k with
  | false => rfl
  | true => rw [W1_0 hw] at h; cases h
theorem Wb_16 : ∀ c, 16 ≤ c → c ≤ 80 → W_b c = false := by
  intro c h1 h2
  have e : ∀ c, c < 81 → 16 ≤ c → W_b c = false := by decide
  exact e c (by omega) h1
theorem Wb_108 : ∀ c, 108 ≤ c → c ≤ 127 → W_b c = false := by
  intro c h1 h2
  have e : ∀ c, c < 128 → 108 ≤ c → W_b c = false := by decide
  exact e c (by omega) h1
section CG1
variable {I I' : Nat → Nat → Int32}
theorem T_congr (h1 : I' 1 1 = I 1 1) (h2 : ∀ k, I' 2 k = I 2 k) (h3 : I' 139 12 = I 139 12) (h4 : ∀ k, I' 145 k = I 145 k) (g : rl_T I) : rl_T I' := by
  unfold rl_T at g ⊢
  rw [h1, h3]
  simp only [h2, h4]
  exact g
theorem F_congr (h1 : I' 3 0 = I 3 0) (h2 : I' 3 1 = I 3 1) (h3 : I' 139 14 = I 139 14) (h4 : I' 139 15 = I 139 15) (g : rl_F I) : rl_F I' := by
  unfold rl_F at g ⊢
  rw [h1, h2, h3, h4]
  exact g
theorem R_congr (h1 : ∀ k, I' 138 k = I 138 k) (h2 : ∀ k, I' 146 k = I 146 k) (g : rl_R I) : rl_R I' := by
  unfold rl_R at g ⊢
  simp only [h1, h2]
  exact g
theorem D_congr (h1 : I' 106 7 = I 106 7) (h2 : I' 139 41 = I 139 41) (g : rl_D I) : rl_D I' := by
  unfold rl_D at g ⊢
  rw [h1, h2]
  exact g
theorem M_congr (h1 : I' 133 1 = I 133 1) (h2 : ∀ k, I' 134 k = I 134 k) (h3 : I' 139 43 = I 139 43) (h4 : ∀ k, I' 161 k = I 161 k) (g : rl_M I) : rl_M I' := by
  unfold rl_M at g ⊢
  rw [h1, h3]
  simp only [h2, h4]
  exact g
end CG1
/-- nothing that is kept has changed: the two stay in step -/
theorem Rl_small {n : Nat} {I I' : Nat → Nat → Int32} {J J' : Nat → Nat → Int64} (h : Fr W_1 I I') (g : Rl_ n I J) (k1 : rl_T I') (k2 : rl_F I') (k3 : rl_R I') (k4 : rl_D I') (k5 : rl_M I') : Rl_ n I' J' := by
  obtain ⟨g1, g2, g3, g4, g5, g6, g7, g8, g9, g10, g11, g12, g13, g14⟩ := g
  have hb : ∀ c, 16 ≤ c → c ≤ 80 → ∀ k, I' c k = I c k := fun c h1 h2 k => h c k (W1_b (Wb_16 c h1 h2))
  have e16 : ∀ k, I' 16 k = I 16 k := hb 16 (by omega) (by omega)
  have e148 : ∀ k, I' 148 k = I 148 k := fun k => h 148 k rfl
  have e140 : ∀ k, I' 140 k = I 140 k := fun k => h 140 k rfl
  have e141 : ∀ k, I' 141 k = I 141 k := fun k => h 141 k rfl
  have ec : cn I' = cn I := by unfold cn; rw [e16]
  have ecr : ∀ b, b < cn I → cr I' b = cr I b := fun b hb' => cr_congr (fun k => by
    have := g7.1.2
    have := bd_rg (b := b) (by omega)
    exact hb _ (by omega) (by omega) k)
  refine ⟨k1, k2, k3, k4, k5, ?_, ?_, ?_, ?_, ?_, ?_, ?_, ?_, ?_⟩
  · intro k hk
    rw [h 147 k rfl]
    exact g6 k hk
  · exact CW_congr (fun k _ => e16 k) (fun c h1 h2 => hb c (by omega) (by omega)) g7
  · exact MW_congr (h 139 1 rfl) e140 e141 e148 (fun k => h 150 k rfl) g8
  · unfold rl_S at g9 ⊢
    rw [ec]
    simp only [e16, e148, h 139 0 rfl, h 139 1 rfl, h 139 2 rfl, h 106 6 rfl, h 128 1 rfl, hb 18 (by omega) (by omega)]
    refine ⟨g9.1, g9.2.1, g9.2.2.1, g9.2.2.2.1, g9.2.2.2.2.1, g9.2.2.2.2.2.1, g9.2.2.2.2.2.2.1, g9.2.2.2.2.2.2.2.1, g9.2.2.2.2.2.2.2.2.1, fun b hb' => ?_⟩
    rw [mr_congr e148 e140 e141, ecr b hb']
    exact g9.2.2.2.2.2.2.2.2.2 b hb'
  · intro b hb'
    rw [ec] at hb'
    have := g7.1.2
    have := bd_rg (b := b) (by omega)
    rw [hb (am_bd b) (by omega) (by omega) 0]
    refine ⟨(g10 b hb').1, fun i hi => ?_⟩
    rw [h 142 _ rfl]
    exact (g10 b hb').2 i hi
  · have eu : un I' = un I := by unfold un; rw [h 106 6 rfl]
    have eo : uo I' = uo I := by unfold uo; rw [h 106 5 rfl]
    have f140 : I' 140 = I 140 := funext e140
    have f141 : I' 141 = I 141 := funext e141
    have f149 : I' 149 = I 149 := funext fun k => h 149 k rfl
    unfold rl_U at g11 ⊢
    rw [eu, eo, ec, h 139 24 rfl, h 106 6 rfl, h 106 5 rfl, f140, f141, f149]
    refine ⟨g11.1, g11.2.1, g11.2.2.1, fun v hv => ?_⟩
    have er : I' (108 + (uo I + v) % 20) = I (108 + (uo I + v) % 20) := funext fun k => h _ k (W1_b (Wb_108 _ (by omega) (by omega)))
    rw [er]
    exact g11.2.2.2 v hv
  · unfold rl_E at g12 ⊢
    rw [h 139 36 rfl, h 139 37 rfl, h 128 0 rfl, h 128 1 rfl, e16]
    refine ⟨g12.1, g12.2.1, g12.2.2.1, fun k hk => ?_⟩
    rw [h 158 k rfl, h 159 k rfl, h 129 k rfl, h 130 k rfl]
    exact g12.2.2.2 k hk
  · unfold rl_C at g13 ⊢
    rw [ec, e16]
    refine ⟨fun a b hab hb' => ?_, fun a b hab hb' => ?_, fun k hk => ?_⟩
    · rw [ecr a (by omega), ecr b hb', h 84 _ rfl, h 85 _ rfl]
      exact g13.1 a b hab hb'
    · rw [ecr a (by omega), ecr b hb', hb 80 (by omega) (by omega)]
      exact g13.2.1 a b hab hb'
    · rw [h 104 k rfl]
      exact g13.2.2 k hk
  · have f103 : I' 103 = I 103 := funext fun k => h 103 k rfl
    have eK : kI I' = kI I := by
      unfold kI
      rw [ec, e16, e16, e16]
      congr 2
      funext b
      split
      · rename_i hb'
        exact ecr b hb'
      · rfl
    unfold rl_V rl_L at g14 ⊢
    rw [e16, h 96 8 rfl, h 96 5 rfl, h 96 6 rfl, h 96 7 rfl, f103, eK]
    exact g14
theorem Rl_fr {n : Nat} {I I' : Nat → Nat → Int32} {J J' : Nat → Nat → Int64} (h : Fr W_0 I I') (g : Rl_ n I J) : Rl_ n I' J' := by
  have f := g
  obtain ⟨g1, g2, g3, g4, g5, _⟩ := g
  exact Rl_small (Fr_01 h) f (T_congr (h 1 1 rfl) (fun k => h 2 k rfl) (h 139 12 rfl) (fun k => h 145 k rfl) g1) (F_congr (h 3 0 rfl) (h 3 1 rfl) (h 139 14 rfl) (h 139 15 rfl) g2) (R_congr (fun k => h 138 k rfl) (fun k => h 146 k rfl) g3) (D_congr (h 106 7 rfl) (h 139 41 rfl) g4) (M_congr (h 133 1 rfl) (fun k => h 134 k rfl) (h 139 43 rfl) (fun k => h 161 k rfl) g5)
theorem Rl_mono {n : Nat} {I : Nat → Nat → Int32} {J : Nat → Nat → Int64} (h : Rl_ n I J) : Rl_ (n + 1) I J := by
  obtain ⟨g1, g2, g3, g4, g5, g6, g7, g8, g9, g10, g11, g12, g13, g14⟩ := h
  refine ⟨g1, g2, g3, g4, g5, g6, g7, g8, g9, g10, g11, g12, g13, ?_⟩
  unfold rl_V at g14 ⊢
  refine ⟨⟨g14.1.1, ?_⟩, g14.2⟩
  have := g14.1.2
  omega
section PRJ
variable {n : Nat} {I : Nat → Nat → Int32} {J : Nat → Nat → Int64}
theorem R_T (h : Rl_ n I J) : rl_T I := h.1
theorem R_F (h : Rl_ n I J) : rl_F I := h.2.1
theorem R_R (h : Rl_ n I J) : rl_R I := h.2.2.1
theorem R_D (h : Rl_ n I J) : rl_D I := h.2.2.2.1
theorem R_M (h : Rl_ n I J) : rl_M I := h.2.2.2.2.1
theorem R_W (h : Rl_ n I J) : rl_W I := h.2.2.2.2.2.1
theorem R_CW (h : Rl_ n I J) : CW I := h.2.2.2.2.2.2.1
theorem R_MW (h : Rl_ n I J) : MW I := h.2.2.2.2.2.2.2.1
theorem R_S (h : Rl_ n I J) : rl_S I := h.2.2.2.2.2.2.2.2.1
theorem R_N (h : Rl_ n I J) : rl_N I := h.2.2.2.2.2.2.2.2.2.1
theorem R_U (h : Rl_ n I J) : rl_U I := h.2.2.2.2.2.2.2.2.2.2.1
theorem R_E (h : Rl_ n I J) : rl_E I := h.2.2.2.2.2.2.2.2.2.2.2.1
theorem R_C (h : Rl_ n I J) : rl_C I := h.2.2.2.2.2.2.2.2.2.2.2.2.1
theorem R_V (h : Rl_ n I J) : rl_V n I := h.2.2.2.2.2.2.2.2.2.2.2.2.2
/-- how many bodies, for both -/
theorem R_n (h : Rl_ n I J) : I 16 2 = iI (cn I) ∧ cn I ≤ 10 ∧ I 139 1 = iI (cn I) ∧ mn I = cn I := by
  have h1 := (R_CW h).1
  have h2 := (R_S h).2.2.1
  refine ⟨h1.1, h1.2, by rw [h2]; exact h1.1, ?_⟩
  unfold mn cn
  rw [h2]
end PRJ
