/-! MATHS: squares, rings -/
theorem sq_nn (a : Int) : 0 ≤ a * a := by
  rcases Int.le_total 0 a with h | h
  · exact Int.mul_nonneg h h
  · exact Int.mul_nonneg_of_nonpos_of_nonpos h h
theorem sq_3 (a b c : Int) : (a + b + c) * (a + b + c) ≤ 3 * (a * a + b * b + c * c) := by
  have h1 := sq_nn (a - b)
  have h2 := sq_nn (b - c)
  have h3 := sq_nn (a - c)
  grind
theorem sq_mono {a b : Int} (h0 : 0 ≤ a) (h : a ≤ b) : a * a ≤ b * b := Int.mul_le_mul h h h0 (by omega)
theorem sq_abs (a : Int) : a.natAbs * a.natAbs = (a * a).natAbs := (Int.natAbs_mul a a).symm
theorem ts_om (a b : Int) (h : a.natAbs ≤ 3) (hb : b.natAbs ≤ 4) : (a - b).natAbs ≤ 7 := by omega
theorem ab_sq (a : Int) : (a.natAbs : Int) * (a.natAbs : Int) = a * a := by
  rcases Int.natAbs_eq a with h | h
  · rw [← h]
  · have e : (a.natAbs : Int) = -a := by omega
    rw [e]
    grind
/-- far by the sums of the parts -/
theorem sq_far {x y z B : Int} (hB : 0 ≤ B) (h : B ≤ x.natAbs + y.natAbs + z.natAbs) : B * B ≤ 3 * sq_ x y z := by
  have h1 := sq_mono hB h
  have h2 := sq_3 (x.natAbs : Int) (y.natAbs : Int) (z.natAbs : Int)
  rw [ab_sq, ab_sq, ab_sq] at h2
  unfold sq_
  omega
theorem rg_pq {w h : Int} (h0 : 0 ≤ w) (h1 : w < 4 * h) : (rg_p w h).natAbs + (rg_q w h).natAbs = h := by
  unfold rg_p rg_q
  split
  · omega
  · split
    · omega
    · split
      · omega
      · omega
theorem ns_tdiv (a : Int) (h : 0 ≤ a) : (-a).tdiv 16 = -(a / 16) := by
  rw [Int.neg_tdiv, Int.tdiv_eq_ediv_of_nonneg h]
theorem rg_fz {q k : Int} (h0 : 0 ≤ k) (h1 : k ≤ 16) : ((q * (16 - k)).tdiv 16).natAbs + ((q * k).tdiv 16).natAbs ≤ q.natAbs ∧ q.natAbs ≤ ((q * (16 - k)).tdiv 16).natAbs + ((q * k).tdiv 16).natAbs + 1 := by
  rcases Int.le_total 0 q with h | h
  · have u0 := Int.mul_nonneg h h0
    have u1 : q * k ≤ q * 16 := Int.mul_le_mul_of_nonneg_left h1 h
    rw [Int.mul_sub]
    generalize q * k = u at *
    rw [Int.tdiv_eq_ediv_of_nonneg (by omega), Int.tdiv_eq_ediv_of_nonneg (by omega)]
    omega
  · obtain ⟨p, rfl⟩ : ∃ p, q = -p := ⟨-q, by omega⟩
    have hp : 0 ≤ p := by omega
    have u0 := Int.mul_nonneg hp h0
    have u1 : p * k ≤ p * 16 := Int.mul_le_mul_of_nonneg_left h1 hp
    rw [Int.neg_mul, Int.neg_mul, Int.mul_sub]
    generalize p * k = u at *
    rw [ns_tdiv _ (by omega), ns_tdiv _ (by omega)]
    omega
section RING
variable {f g : Nat → Int}
theorem ps_r_rg (ok : ps_ok f) (s : Int) : 0 ≤ ps_r f s ∧ ps_r f s < f 2 := by
  have h := ok.2.1
  exact ⟨Int.emod_nonneg _ (by omega), Int.emod_lt_of_pos _ (by omega)⟩
theorem ps_s_rg (ok : ps_ok f) (t : Int) : 0 ≤ ps_s f t ∧ ps_s f t < f 2 := by
  have h := ok.2.1
  exact ⟨Int.emod_nonneg _ (by omega), Int.emod_lt_of_pos _ (by omega)⟩
theorem rise_rg {d m t : Int} (hd : 0 ≤ d) (hm : 0 ≤ m) (ht : 0 < t) (h2 : 2 * m ≤ t) : 0 ≤ 2 * d * m / t ∧ 2 * d * m / t ≤ d := by
  have e : 2 * d * m = d * (2 * m) := by grind
  rw [e]
  refine ⟨Int.ediv_nonneg (Int.mul_nonneg hd (by omega)) (by omega), Int.ediv_le_of_le_mul ht ?_⟩
  exact Int.mul_le_mul_of_nonneg_left h2 hd
theorem ps_h_rg (ok : ps_ok f) (s : Int) : f 0 ≤ ps_h f s ∧ ps_h f s ≤ f 1 := by
  have hr := ps_r_rg ok s
  obtain ⟨⟨a1, a2, a3⟩, ⟨b1, b2⟩, _⟩ := ok
  have := rise_rg (d := f 1 - f 0) (m := min (ps_r f s) (f 2 - ps_r f s)) (t := f 2) (by omega) (by omega) (by omega) (by omega)
  unfold ps_h
  omega
theorem way_rg {s h t : Int} (hs : 0 ≤ s) (hst : s < t) (hh : 1 ≤ h) : 0 ≤ 4 * s * h / t ∧ 4 * s * h / t < 4 * h := by
  refine ⟨Int.ediv_nonneg (Int.mul_nonneg (by omega) (by omega)) (by omega), Int.ediv_lt_of_lt_mul (by omega) ?_⟩
  have e1 : 4 * s * h = 4 * (s * h) := by grind
  have e2 : 4 * h * t = 4 * (t * h) := by grind
  have := Int.mul_lt_mul_of_pos_right hst (show 0 < h by omega)
  rw [e1, e2]
  omega
theorem ps_w_rg (ok : ps_ok f) {s : Int} (h0 : 0 ≤ s) (h1 : s < f 2) : 0 ≤ ps_w f s ∧ ps_w f s < 4 * ps_h f s := by
  have hh := ps_h_rg ok s
  exact way_rg h0 h1 (by have := ok.1; omega)
/-- the sum of the parts of a place is its height, or one less -/
theorem ps_sum (ok : ps_ok f) {s : Int} (h0 : 0 ≤ s) (h1 : s < f 2) : ps_h f s ≤ (ps_x f s).natAbs + (ps_y f s).natAbs + (ps_z f s).natAbs + 1 ∧ (ps_x f s).natAbs + (ps_y f s).natAbs + (ps_z f s).natAbs ≤ ps_h f s := by
  have hw := ps_w_rg ok h0 h1
  have h2 := rg_pq hw.1 hw.2
  have h3 := rg_fz (q := ps_q f s) (k := f 5) ok.2.2.2.2.1.1 ok.2.2.2.2.1.2
  unfold ps_x ps_y ps_z
  change ((ps_p f s).natAbs : Int) + ((ps_q f s).natAbs : Int) = _ at h2
  change (ps_f f s).natAbs + _ ≤ _ ∧ _ ≤ (ps_f f s).natAbs + _ + 1 at h3
  generalize ps_p f s = p at *
  generalize ps_f f s = F at *
  generalize (ps_q f s * f 5).tdiv 16 = Z at *
  generalize ps_q f s = Q at *
  split
  · omega
  · split
    · omega
    · split
      · omega
      · omega
theorem ps_rg (ok : ps_ok f) {s : Int} (h0 : 0 ≤ s) (h1 : s < f 2) : (ps_x f s).natAbs ≤ 200 ∧ (ps_y f s).natAbs ≤ 200 ∧ (ps_z f s).natAbs ≤ 200 := by
  have h := ps_sum ok h0 h1
  have h2 := ps_h_rg ok s
  have := ok.1
  omega
theorem sq_rg {a : Int} (h : a.natAbs ≤ 400) : a * a ≤ 160000 := by
  have := sq_mono (a := (a.natAbs : Int)) (b := 400) (by omega) (by omega)
  rw [ab_sq] at this
  exact this
theorem ps_d_rg (okf : ps_ok f) (okg : ps_ok g) {s u : Int} (h0 : 0 ≤ s) (h1 : s < f 2) (h2 : 0 ≤ u) (h3 : u < g 2) : 0 ≤ ps_d f g s u ∧ ps_d f g s u ≤ 480000 := by
  have a := ps_rg okf h0 h1
  have b := ps_rg okg h2 h3
  have x0 := sq_nn (ps_x f s - ps_x g u)
  have y0 := sq_nn (ps_y f s - ps_y g u)
  have z0 := sq_nn (ps_z f s - ps_z g u)
  have x1 := sq_rg (a := ps_x f s - ps_x g u) (by omega)
  have y1 := sq_rg (a := ps_y f s - ps_y g u) (by omega)
  have z1 := sq_rg (a := ps_z f s - ps_z g u) (by omega)
  unfold ps_d sq_
  omega
theorem ps_far_rg (okf : ps_ok f) (okg : ps_ok g) (t : Int) : 0 ≤ ps_far f g t ∧ ps_far f g t ≤ 480000 :=
  ps_d_rg okf okg (ps_s_rg okf t).1 (ps_s_rg okf t).2 (ps_s_rg okg t).1 (ps_s_rg okg t).2
theorem sq_com (x y z a b c : Int) : sq_ (x - a) (y - b) (z - c) = sq_ (a - x) (b - y) (c - z) := by
  unfold sq_
  grind
theorem ps_d_com (s u : Int) : ps_d f g s u = ps_d g f u s := sq_com _ _ _ _ _ _
theorem ps_far_com (t : Int) : ps_far f g t = ps_far g f t := ps_d_com _ _
/-- shells that are off -/
theorem off_1 (okf : ps_ok f) (okg : ps_ok g) {s u e : Int} (h0 : 0 ≤ s) (h1 : s < f 2) (h2 : 0 ≤ u) (h3 : u < g 2) (hb : 0 < f 0 - g 1) (ho : 3 * (e * e) < (f 0 - g 1 - 1) * (f 0 - g 1 - 1)) : e * e < ps_d f g s u := by
  have a := ps_sum okf h0 h1
  have b := ps_sum okg h2 h3
  have a1 := ps_h_rg okf s
  have b1 := ps_h_rg okg u
  have := sq_far (x := ps_x f s - ps_x g u) (y := ps_y f s - ps_y g u) (z := ps_z f s - ps_z g u) (B := f 0 - g 1 - 1) (by omega) (by omega)
  unfold ps_d
  omega
theorem off_far (okf : ps_ok f) (okg : ps_ok g) {s u e : Int} (h0 : 0 ≤ s) (h1 : s < f 2) (h2 : 0 ≤ u) (h3 : u < g 2) (ho : ps_off e f g) : e * e < ps_d f g s u := by
  rcases ho with ⟨hb, ho⟩ | ⟨hb, ho⟩
  · exact off_1 okf okg h0 h1 h2 h3 hb ho
  · rw [ps_d_com]
    exact off_1 okg okf h2 h3 h0 h1 hb ho
theorem off_com {e : Int} : ps_off e f g ↔ ps_off e g f := by
  unfold ps_off
  exact Or.comm
end RING
