/-! PASSES -/
/-- a pass begins -/
def bg (w : Nat → Prop) : Nat → Prop
  | 0 => w 0
  | r + 1 => w (r + 1) ∧ ¬ w r
/-- the first of the least of d from s on, d steps further -/
def pb (d : Nat → Int) (s : Nat) : Nat → Nat
  | 0 => s
  | j + 1 => if d (s + j + 1) < d (pb d s j) then s + j + 1 else pb d s j
def PS (w : Nat → Prop) (n : Nat) (k : Int) (s u : Nat) : Prop := bg w s ∧ ci (bg w) s = k ∧ s < u ∧ u ≤ n ∧ (∀ r, s ≤ r → r < u → w r) ∧ (u = n ∨ ¬ w u)
section BG
variable {w : Nat → Prop} {d : Nat → Int} {n s t u : Nat} {k : Int}
theorem bg_w : ∀ {t}, bg w t → w t
  | 0, h => h
  | _ + 1, h => h.1
theorem bg_run (h : bg w s) : ∀ j, (∀ r, s ≤ r → r < s + j + 1 → w r) → ci (bg w) (s + j + 1) = ci (bg w) s + 1 := by
  intro j
  induction j with
  | zero => intro _; exact ci_t h
  | succ j ih =>
    intro hr
    have := ih (fun r h1 h2 => hr r h1 (by omega))
    rw [show s + (j + 1) + 1 = (s + j + 1) + 1 by omega, ci_f (p := bg w) (k := s + j + 1), this]
    intro z
    exact z.2 (hr (s + j) (by omega) (by omega))
theorem bg_cur (h : w t) : ∃ s, s ≤ t ∧ bg w s ∧ (∀ r, s ≤ r → r ≤ t → w r) := by
  induction t with
  | zero =>
    refine ⟨0, by omega, h, fun r _ h2 => ?_⟩
    obtain rfl : r = 0 := by omega
    exact h
  | succ t ih =>
    by_cases q : w t
    · obtain ⟨s, h1, h2, h3⟩ := ih q
      refine ⟨s, by omega, h2, fun r r1 r2 => ?_⟩
      by_cases e : r = t + 1
      · subst e; exact h
      · exact h3 r r1 (by omega)
    · refine ⟨t + 1, by omega, ⟨h, q⟩, fun r r1 r2 => ?_⟩
      obtain rfl : r = t + 1 := by omega
      exact h
theorem bg_lt (h : bg w s) (hst : s < t) : ci (bg w) s + 1 ≤ ci (bg w) t := by
  rw [← ci_t h]
  exact ci_mono hst
theorem bg_one (h1 : bg w s) (h2 : bg w t) (e : ci (bg w) s = ci (bg w) t) : s = t := by
  rcases Nat.lt_trichotomy s t with q | q | q
  · have := bg_lt h1 q; omega
  · exact q
  · have := bg_lt h2 q; omega
theorem PS_one {s' u' : Nat} (h1 : PS w n k s u) (h2 : PS w n k s' u') : s = s' ∧ u = u' := by
  obtain ⟨a1, a2, a3, a4, a5, a6⟩ := h1
  obtain ⟨b1, b2, b3, b4, b5, b6⟩ := h2
  have e := bg_one a1 b1 (by omega)
  subst e
  refine ⟨rfl, ?_⟩
  rcases Nat.lt_trichotomy u u' with q | q | q
  · rcases a6 with z | z
    · omega
    · exact absurd (b5 u (by omega) q) z
  · exact q
  · rcases b6 with z | z
    · omega
    · exact absurd (a5 u' (by omega) q) z
theorem PS_ex (h0 : 0 ≤ k) (h : k < ci (bg w) n) : ∃ s u, PS w n k s u := by
  unfold ci at h
  obtain ⟨s, s1, s2, s3⟩ := fb_ct_kth (p := fun j => bl (bg w j)) (k := k.toNat) (n := n) (by omega)
  rw [bl_iff] at s2
  have hx : ∃ v, v < n + 1 ∧ (s < v ∧ (v = n ∨ ¬ w v)) := ⟨n, by omega, s1, Or.inl rfl⟩
  obtain ⟨u, u1, u2, u3⟩ := fst_ex (n + 1) hx
  refine ⟨s, u, s2, by unfold ci; omega, u2.1, by omega, fun r r1 r2 => ?_, u2.2⟩
  by_cases e : r = s
  · subst e; exact bg_w s2
  · apply Classical.byContradiction
    intro z
    exact u3 r r2 ⟨by omega, Or.inr z⟩
theorem pb_t {j : Nat} (h : d (s + j + 1) < d (pb d s j)) : pb d s (j + 1) = s + j + 1 := by show (if _ then _ else _) = _; rw [if_pos h]
theorem pb_f {j : Nat} (h : ¬ d (s + j + 1) < d (pb d s j)) : pb d s (j + 1) = pb d s j := by show (if _ then _ else _) = _; rw [if_neg h]
theorem pb_rg : ∀ j, s ≤ pb d s j ∧ pb d s j ≤ s + j := by
  intro j
  induction j with
  | zero => exact ⟨Nat.le_refl _, Nat.le_refl _⟩
  | succ j ih =>
    by_cases q : d (s + j + 1) < d (pb d s j)
    · rw [pb_t q]; omega
    · rw [pb_f q]; omega
end BG
/-- within the gap at a tick; how FAR -/
def wt (K : Sk) (a b t : Nat) : Prop := ps_far (kf K a) (kf K b) t ≤ ke K * ke K
def fr_ (K : Sk) (a b t : Nat) : Int := ps_far (kf K a) (kf K b) t
def cy_ (K : Sk) (a b : Nat) : Nat := ps_cy (kf K a) (kf K b)
/-- the row of a pass -/
def prw (K : Sk) (a b s u : Nat) (I : Nat → Nat → Int32) : Prop := I 87 0 = iI s ∧ I 87 1 = iI (u - s : Nat) ∧ I 87 2 = iI (pb (fr_ K a b) s (u - s - 1) : Nat) ∧ I 87 3 = iI (fr_ K a b (pb (fr_ K a b) s (u - s - 1)))
section S46
variable {X : am_X} {K : Sk} {I : Nat → Nat → Int32} {J : Nat → Nat → Int64} {a b o : Nat}
theorem c_66t {t d : Int32} : ∃ I', am_do X 66 [.ref 83, .int t, .int d, .int (iI 1)] (am_sh I J) = some (none, am_sh I' J) ∧ (∀ c k, c ≠ 87 → I' c k = I c k) ∧ I' 87 0 = t ∧ I' 87 1 = iI 1 ∧ I' 87 2 = t ∧ I' 87 3 = d := by
  have h0 : ¬ (iI 1 : Int32) = 0 := by decide
  rw [cl_66, sg_66_e0, if_neg h0, if_pos h0]
  refine ⟨_, rfl, fun c k hc => ?_, ?_, ?_, ?_, ?_⟩
  · rw [up_c hc, up_c hc, up_c hc, up_c hc, up_c hc]
  · rw [up_k (by omega), up_k (by omega), up_k (by omega), up_k (by omega), up_at]
  · rw [up_k (by omega), up_k (by omega), up_at, up_at]
    rfl
  · rw [up_k (by omega), up_at]
  · rw [up_at]
theorem c_66f {t d : Int32} : ∃ I', am_do X 66 [.ref 83, .int t, .int d, .int (iI 0)] (am_sh I J) = some (none, am_sh I' J) ∧ (∀ c k, c ≠ 87 → I' c k = I c k) ∧ I' 87 0 = I 87 0 ∧ I' 87 1 = I 87 1 + 1 ∧ ((I 87 3 ≤ d ∧ I' 87 2 = I 87 2 ∧ I' 87 3 = I 87 3) ∨ (¬ I 87 3 ≤ d ∧ I' 87 2 = t ∧ I' 87 3 = d)) := by
  have h0 : (iI 0 : Int32) = 0 := rfl
  have e3 : (am_up I 87 1 (I 87 1 + 1)) 87 3 = I 87 3 := up_k (by omega)
  rw [cl_66, sg_66_e0, if_pos h0, if_neg (fun z => z h0), e3]
  by_cases q : I 87 3 ≤ d
  · rw [if_pos q]
    refine ⟨_, rfl, fun c k hc => up_c hc ▸ rfl, up_k (by omega), up_at _ _ _ _, Or.inl ⟨q, up_k (by omega), up_k (by omega)⟩⟩
  · rw [if_neg q]
    refine ⟨_, rfl, fun c k hc => ?_, ?_, ?_, Or.inr ⟨q, ?_, up_at _ _ _ _⟩⟩
    · rw [up_c hc, up_c hc, up_c hc]
    · rw [up_k (by omega), up_k (by omega), up_k (by omega)]
    · rw [up_k (by omega), up_k (by omega), up_at]
    · rw [up_k (by omega), up_at]
theorem k_65 (h : CS K I) (ha : a < kn K) (hb : b < kn K) {z : Int} (z0 : -1 ≤ z) (z1 : z < 2147483648) : ∃ I' : Nat → Nat → Int32, am_do X 65 [.ref 83, .int (iI a), .int (iI b), .int (iI z)] (am_sh I J) = some (some (.int (iI (ci (bg (wt K a b)) (cy_ K a b)))), am_sh I' J) ∧ (∀ c k, c ≠ 87 → I' c k = I c k) ∧ ∀ s u, PS (wt K a b) (cy_ K a b) z s u → prw K a b s u I' := by
  have hn := K_n (CS_k h)
  have he := K_e (CS_k h)
  have okf := K_f (CS_k h) ha
  have okg := K_f (CS_k h) hb
  have hcy : 0 < cy_ K a b ∧ cy_ K a b ≤ 2304 := ps_cy_pos okf okg
  have r4 := sq_nn (ke K)
  have r5 := sq_rg (a := ke K) (by omega)
  have L := Lp1 (n := cy_ K a b) (G := fun t (s : (Nat → Nat → Int32) × Int × Value × Value) => am_ev X amP_65 30 [.ref 83, .int (iI a), .int (iI b), .int (iI z), .ref (am_bd a), .ref (am_bd b), .int (iI (cy_ K a b)), .int (iI (ke K * ke K)), .int (iI (ci (bg (wt K a b)) t)), .int (iI s.2.1), .int (iI t), s.2.2.1, s.2.2.2] [] (am_sh s.1 J)) (Iv := fun t s => (∀ c k, c ≠ 87 → s.1 c k = I c k) ∧ ((s.2.1 = 0 ∧ ∀ r, t = r + 1 → ¬ wt K a b r) ∨ (s.2.1 = 1 ∧ ∃ r, t = r + 1 ∧ wt K a b r)) ∧ (s.2.2.1.category = 1 ∧ s.2.2.2.category = 1) ∧ ∀ v u, PS (wt K a b) t z v u → prw K a b v u s.1) (P := fun r => ∃ I' : Nat → Nat → Int32, r = some (some (.int (iI (ci (bg (wt K a b)) (cy_ K a b)))), am_sh I' J) ∧ (∀ c k, c ≠ 87 → I' c k = I c k) ∧ ∀ s u, PS (wt K a b) (cy_ K a b) z s u → prw K a b s u I') (by
    rintro t ⟨I1, x, wv, vv⟩ ht ⟨f1, hx, ⟨hw, hv⟩, hp⟩
    right
    try dsimp only at f1 hx hw hv hp
    have g1 : CS K I1 := CS_fr h (fun c k q => f1 c k (fun y => by rw [y] at q; cases q))
    have sa := K_s (CS_k h) ha t
    have sb := K_s (CS_k h) hb t
    have D := ps_far_rg okf okg t
    have eD : ps_d (kf K a) (kf K b) (ps_s (kf K a) t) (ps_s (kf K b) t) = ps_far (kf K a) (kf K b) t := rfl
    have hci := ci_rg (p := bg (wt K a b)) (n := t)
    by_cases q : wt K a b t
    · have q' : ps_far (kf K a) (kf K b) t ≤ ke K * ke K := q
      by_cases qx : x = 0
      · subst qx
        have hx2 : ∀ r, t = r + 1 → ¬ wt K a b r := by
          rcases hx with ⟨-, y⟩ | ⟨y, -⟩
          · exact y
          · omega
        have hbg : bg (wt K a b) t := by
          cases t with
          | zero => exact q
          | succ r => exact ⟨q, hx2 r rfl⟩
        by_cases qz : ci (bg (wt K a b)) t = z
        · obtain ⟨I2, e1, f2, e2, e3, e4, e5⟩ := c_66t (X := X) (I := I1) (J := J) (t := iI t) (d := iI (ps_far (kf K a) (kf K b) t))
          refine ⟨(I2, 1, .int (iI (ps_far (kf K a) (kf K b) t)), .int (iI 1)), ⟨fun c k hc => (f2 c k hc).trans (f1 c k hc), Or.inr ⟨rfl, t, rfl, q⟩, ⟨rfl, rfl⟩, fun v u hps => ?_⟩, ?_⟩
          · try dsimp only
            have ev : v = t := by
              obtain ⟨p1, p2, p3, p4, p5, p6⟩ := hps
              exact bg_one p1 hbg (by omega)
            subst ev
            have eu : u = v + 1 := by
              have := hps.2.2.1
              have := hps.2.2.2.1
              omega
            subst eu
            have e6 : v + 1 - v = 1 := by omega
            have e7 : v + 1 - v - 1 = 0 := by omega
            unfold prw
            rw [e7, e6]
            exact ⟨e2, e3, e4, e5⟩
          · try dsimp only
            rw [cS, ci_t hbg, sg_65_30]
            · simp (disch := first | omega | assumption | exact cat_n | exact cat_i _ | exact cat_r _ | (simp (disch := omega) only [l_0, l_1, l_m1, l_2, l_3, l_4, l_5, l_6, l_7, l_8, l_9, l_10, l_16, l_20, l_40, l_48, l_99, l_200, l_999, l_9999, li_73, li_78, li_m1000000, li_90, li_251, li_400, li_2400, li_91, li_153, li_173, li_96, li_32, li_92, li_12, li_93, li_80, li_14, li_1000000000, li_30, li_11, li_24, li_13, li_97, li_64, li_1600, li_49, li_255, li_2147483647, li_12345, li_1103515245, li_59, li_57, li_122, li_1023, li_1000000, li_52, li_51, li_50, li_47, li_46, li_45, li_44, li_43, li_42, li_41, li_39, li_38, li_37, li_36, li_35, li_34, li_33, li_29, li_28, li_27, li_26, li_25, li_23, li_22, li_21, li_19, li_18, li_17, li_15, li_m8, li_m2, li_60, li_54, li_2907, li_151, li_127, oN, iI_add, iI_sub, iI_mul, iI_neg, Int.reduceAdd, Int.reduceSub, Int.reduceMul, Int.reduceNeg, Int.toNat_natCast, iI_lt, iI_le, iI_eq, iI_cl, true_or, or_true, false_or, or_false, true_and, and_true, not_true_eq_false, not_false_eq_true]; first | done | omega)) only [↓if_pos, ↓if_neg, Option.bind_some, Option.toList_some, Option.toList_none, List.cons_append, List.nil_append, l_0, l_1, l_m1, l_2, l_3, l_4, l_5, l_6, l_7, l_8, l_9, l_10, l_16, l_20, l_40, l_48, l_99, l_200, l_999, l_9999, li_73, li_78, li_m1000000, li_90, li_251, li_400, li_2400, li_91, li_153, li_173, li_96, li_32, li_92, li_12, li_93, li_80, li_14, li_1000000000, li_30, li_11, li_24, li_13, li_97, li_64, li_1600, li_49, li_255, li_2147483647, li_12345, li_1103515245, li_59, li_57, li_122, li_1023, li_1000000, li_52, li_51, li_50, li_47, li_46, li_45, li_44, li_43, li_42, li_41, li_39, li_38, li_37, li_36, li_35, li_34, li_33, li_29, li_28, li_27, li_26, li_25, li_23, li_22, li_21, li_19, li_18, li_17, li_15, li_m8, li_m2, li_60, li_54, li_2907, li_151, li_127, oN, iI_add, iI_sub, iI_mul, iI_neg, Int.reduceAdd, Int.reduceSub, Int.reduceMul, Int.reduceNeg, Int.toNat_natCast, iI_cl, sg_65_37, sg_65_41, sg_65_42, sg_65_76, k_30 g1, k_35 g1, eD, e1]
            all_goals first | assumption | omega | exact cat_n | exact cat_i _ | exact cat_r _ | rfl
        · refine ⟨(I1, 1, .int (iI (ps_far (kf K a) (kf K b) t)), .int (iI 1)), ⟨f1, Or.inr ⟨rfl, t, rfl, q⟩, ⟨rfl, rfl⟩, fun v u hps => ?_⟩, ?_⟩
          · try dsimp only
            obtain ⟨p1, p2, p3, p4, p5, p6⟩ := hps
            have hvt : v < t := by
              by_cases e : v = t
              · subst e; exact absurd p2 qz
              · omega
            have hut : u < t := by
              apply Classical.byContradiction
              intro y
              cases t with
              | zero => omega
              | succ r => exact hx2 r rfl (p5 r (by omega) (by omega))
            exact hp v u ⟨p1, p2, p3, by omega, p5, Or.inr (by rcases p6 with y | y; omega; exact y)⟩
          · try dsimp only
            rw [cS, ci_t hbg, sg_65_30]
            · simp (disch := first | omega | assumption | exact cat_n | exact cat_i _ | exact cat_r _ | (simp (disch := omega) only [l_0, l_1, l_m1, l_2, l_3, l_4, l_5, l_6, l_7, l_8, l_9, l_10, l_16, l_20, l_40, l_48, l_99, l_200, l_999, l_9999, li_73, li_78, li_m1000000, li_90, li_251, li_400, li_2400, li_91, li_153, li_173, li_96, li_32, li_92, li_12, li_93, li_80, li_14, li_1000000000, li_30, li_11, li_24, li_13, li_97, li_64, li_1600, li_49, li_255, li_2147483647, li_12345, li_1103515245, li_59, li_57, li_122, li_1023, li_1000000, li_52, li_51, li_50, li_47, li_46, li_45, li_44, li_43, li_42, li_41, li_39, li_38, li_37, li_36, li_35, li_34, li_33, li_29, li_28, li_27, li_26, li_25, li_23, li_22, li_21, li_19, li_18, li_17, li_15, li_m8, li_m2, li_60, li_54, li_2907, li_151, li_127, oN, iI_add, iI_sub, iI_mul, iI_neg, Int.reduceAdd, Int.reduceSub, Int.reduceMul, Int.reduceNeg, Int.toNat_natCast, iI_lt, iI_le, iI_eq, iI_cl, true_or, or_true, false_or, or_false, true_and, and_true, not_true_eq_false, not_false_eq_true]; first | done | omega)) only [↓if_pos, ↓if_neg, Option.bind_some, Option.toList_some, Option.toList_none, List.cons_append, List.nil_append, l_0, l_1, l_m1, l_2, l_3, l_4, l_5, l_6, l_7, l_8, l_9, l_10, l_16, l_20, l_40, l_48, l_99, l_200, l_999, l_9999, li_73, li_78, li_m1000000, li_90, li_251, li_400, li_2400, li_91, li_153, li_173, li_96, li_32, li_92, li_12, li_93, li_80, li_14, li_1000000000, li_30, li_11, li_24, li_13, li_97, li_64, li_1600, li_49, li_255, li_2147483647, li_12345, li_1103515245, li_59, li_57, li_122, li_1023, li_1000000, li_52, li_51, li_50, li_47, li_46, li_45, li_44, li_43, li_42, li_41, li_39, li_38, li_37, li_36, li_35, li_34, li_33, li_29, li_28, li_27, li_26, li_25, li_23, li_22, li_21, li_19, li_18, li_17, li_15, li_m8, li_m2, li_60, li_54, li_2907, li_151, li_127, oN, iI_add, iI_sub, iI_mul, iI_neg, Int.reduceAdd, Int.reduceSub, Int.reduceMul, Int.reduceNeg, Int.toNat_natCast, iI_cl, sg_65_37, sg_65_41, sg_65_42, k_30 g1, k_35 g1, eD]
            all_goals first | assumption | omega | exact cat_n | exact cat_i _ | exact cat_r _ | rfl
      · obtain ⟨hx1, r, er, hr⟩ : x = 1 ∧ ∃ r, t = r + 1 ∧ wt K a b r := by
          rcases hx with ⟨y, -⟩ | y
          · exact absurd y qx
          · exact y
        subst hx1 er
        have hbg : ¬ bg (wt K a b) (r + 1) := fun y => y.2 hr
        obtain ⟨s0, t1, t2, t3⟩ := bg_cur hr
        have hs0 : ci (bg (wt K a b)) (r + 1) = ci (bg (wt K a b)) s0 + 1 := by
          have := bg_run t2 (r - s0) (fun v v1 v2 => t3 v v1 (by omega))
          rw [show s0 + (r - s0) + 1 = r + 1 by omega] at this
          exact this
        by_cases qz : ci (bg (wt K a b)) (r + 1) - 1 = z
        · obtain ⟨w0, w1, w2, w3⟩ := hp s0 (r + 1) ⟨t2, by omega, by omega, Nat.le_refl _, fun v v1 v2 => t3 v v1 (by omega), Or.inl rfl⟩
          obtain ⟨I2, e1, f2, e2, e3, e4⟩ := c_66f (X := X) (I := I1) (J := J) (t := iI (r + 1 : Nat)) (d := iI (ps_far (kf K a) (kf K b) (r + 1 : Nat)))
          have hpbr := pb_rg (d := fr_ K a b) (s := s0) (r + 1 - s0 - 1)
          have D2 := ps_far_rg okf okg ((pb (fr_ K a b) s0 (r + 1 - s0 - 1) : Nat) : Int)
          have D2' : 0 ≤ fr_ K a b (pb (fr_ K a b) s0 (r + 1 - s0 - 1)) ∧ fr_ K a b (pb (fr_ K a b) s0 (r + 1 - s0 - 1)) ≤ 480000 := D2
          refine ⟨(I2, 1, .int (iI (ps_far (kf K a) (kf K b) (r + 1 : Nat))), .int (iI 1)), ⟨fun c k hc => (f2 c k hc).trans (f1 c k hc), Or.inr ⟨rfl, r + 1, rfl, q⟩, ⟨rfl, rfl⟩, fun v u hps => ?_⟩, ?_⟩
          · try dsimp only
            have ev : v = s0 := bg_one hps.1 t2 (by have := hps.2.1; omega)
            subst ev
            have eu : u = r + 1 + 1 := by
              obtain ⟨p1, p2, p3, p4, p5, p6⟩ := hps
              rcases p6 with y | y
              · exact y
              · apply Classical.byContradiction
                intro y2
                apply y
                by_cases e : u = r + 1
                · rw [e]; exact q
                · exact t3 u (by omega) (by omega)
            subst eu
            have e6 : r + 1 + 1 - v - 1 = (r + 1 - v - 1) + 1 := by omega
            have e7 : v + (r + 1 - v - 1) + 1 = r + 1 := by omega
            have e8 : (r + 1 + 1 - v : Nat) = (r + 1 - v : Nat) + 1 := by omega
            refine ⟨e2.trans w0, ?_, ?_⟩
            · rw [e3, w1, e8, cS, l_1, iI_add]
            · rw [e6]
              rcases e4 with ⟨y1, y2, y3⟩ | ⟨y1, y2, y3⟩
              · rw [w3, iI_le (by omega) (by omega) (by omega) (by omega)] at y1
                have hpf : ¬ fr_ K a b (v + (r + 1 - v - 1) + 1) < fr_ K a b (pb (fr_ K a b) v (r + 1 - v - 1)) := by
                  rw [e7]
                  exact Int.not_lt.mpr y1
                rw [pb_f hpf]
                exact ⟨y2.trans w2, y3.trans w3⟩
              · rw [w3, iI_le (by omega) (by omega) (by omega) (by omega)] at y1
                have hpt : fr_ K a b (v + (r + 1 - v - 1) + 1) < fr_ K a b (pb (fr_ K a b) v (r + 1 - v - 1)) := by
                  rw [e7]
                  exact Int.not_le.mp y1
                rw [pb_t hpt, e7]
                exact ⟨y2, y3⟩
          · try dsimp only
            rw [cS (r + 1), ci_f hbg, sg_65_30]
            · simp (disch := first | omega | assumption | exact cat_n | exact cat_i _ | exact cat_r _ | (simp (disch := omega) only [l_0, l_1, l_m1, l_2, l_3, l_4, l_5, l_6, l_7, l_8, l_9, l_10, l_16, l_20, l_40, l_48, l_99, l_200, l_999, l_9999, li_73, li_78, li_m1000000, li_90, li_251, li_400, li_2400, li_91, li_153, li_173, li_96, li_32, li_92, li_12, li_93, li_80, li_14, li_1000000000, li_30, li_11, li_24, li_13, li_97, li_64, li_1600, li_49, li_255, li_2147483647, li_12345, li_1103515245, li_59, li_57, li_122, li_1023, li_1000000, li_52, li_51, li_50, li_47, li_46, li_45, li_44, li_43, li_42, li_41, li_39, li_38, li_37, li_36, li_35, li_34, li_33, li_29, li_28, li_27, li_26, li_25, li_23, li_22, li_21, li_19, li_18, li_17, li_15, li_m8, li_m2, li_60, li_54, li_2907, li_151, li_127, oN, iI_add, iI_sub, iI_mul, iI_neg, Int.reduceAdd, Int.reduceSub, Int.reduceMul, Int.reduceNeg, Int.toNat_natCast, iI_lt, iI_le, iI_eq, iI_cl, true_or, or_true, false_or, or_false, true_and, and_true, not_true_eq_false, not_false_eq_true]; first | done | omega)) only [↓if_pos, ↓if_neg, Option.bind_some, Option.toList_some, Option.toList_none, List.cons_append, List.nil_append, l_0, l_1, l_m1, l_2, l_3, l_4, l_5, l_6, l_7, l_8, l_9, l_10, l_16, l_20, l_40, l_48, l_99, l_200, l_999, l_9999, li_73, li_78, li_m1000000, li_90, li_251, li_400, li_2400, li_91, li_153, li_173, li_96, li_32, li_92, li_12, li_93, li_80, li_14, li_1000000000, li_30, li_11, li_24, li_13, li_97, li_64, li_1600, li_49, li_255, li_2147483647, li_12345, li_1103515245, li_59, li_57, li_122, li_1023, li_1000000, li_52, li_51, li_50, li_47, li_46, li_45, li_44, li_43, li_42, li_41, li_39, li_38, li_37, li_36, li_35, li_34, li_33, li_29, li_28, li_27, li_26, li_25, li_23, li_22, li_21, li_19, li_18, li_17, li_15, li_m8, li_m2, li_60, li_54, li_2907, li_151, li_127, oN, iI_add, iI_sub, iI_mul, iI_neg, Int.reduceAdd, Int.reduceSub, Int.reduceMul, Int.reduceNeg, Int.toNat_natCast, iI_cl, sg_65_37, sg_65_41, sg_65_42, sg_65_76, k_30 g1, k_35 g1, eD, e1, Int.add_zero]
            all_goals first | assumption | omega | exact cat_n | exact cat_i _ | exact cat_r _ | rfl
        · refine ⟨(I1, 1, .int (iI (ps_far (kf K a) (kf K b) (r + 1 : Nat))), .int (iI 1)), ⟨f1, Or.inr ⟨rfl, r + 1, rfl, q⟩, ⟨rfl, rfl⟩, fun v u hps => ?_⟩, ?_⟩
          · try dsimp only
            obtain ⟨p1, p2, p3, p4, p5, p6⟩ := hps
            have hvr : v < r + 1 := by
              by_cases e : v = r + 1
              · subst e; exact absurd p1 hbg
              · omega
            have hut : u < r + 1 := by
              apply Classical.byContradiction
              intro y
              have := bg_run p1 (r - v) (fun j j1 j2 => p5 j j1 (by omega))
              rw [show v + (r - v) + 1 = r + 1 by omega] at this
              omega
            exact hp v u ⟨p1, p2, p3, by omega, p5, Or.inr (by rcases p6 with y | y; omega; exact y)⟩
          · try dsimp only
            rw [cS (r + 1), ci_f hbg, sg_65_30]
            · simp (disch := first | omega | assumption | exact cat_n | exact cat_i _ | exact cat_r _ | (simp (disch := omega) only [l_0, l_1, l_m1, l_2, l_3, l_4, l_5, l_6, l_7, l_8, l_9, l_10, l_16, l_20, l_40, l_48, l_99, l_200, l_999, l_9999, li_73, li_78, li_m1000000, li_90, li_251, li_400, li_2400, li_91, li_153, li_173, li_96, li_32, li_92, li_12, li_93, li_80, li_14, li_1000000000, li_30, li_11, li_24, li_13, li_97, li_64, li_1600, li_49, li_255, li_2147483647, li_12345, li_1103515245, li_59, li_57, li_122, li_1023, li_1000000, li_52, li_51, li_50, li_47, li_46, li_45, li_44, li_43, li_42, li_41, li_39, li_38, li_37, li_36, li_35, li_34, li_33, li_29, li_28, li_27, li_26, li_25, li_23, li_22, li_21, li_19, li_18, li_17, li_15, li_m8, li_m2, li_60, li_54, li_2907, li_151, li_127, oN, iI_add, iI_sub, iI_mul, iI_neg, Int.reduceAdd, Int.reduceSub, Int.reduceMul, Int.reduceNeg, Int.toNat_natCast, iI_lt, iI_le, iI_eq, iI_cl, true_or, or_true, false_or, or_false, true_and, and_true, not_true_eq_false, not_false_eq_true]; first | done | omega)) only [↓if_pos, ↓if_neg, Option.bind_some, Option.toList_some, Option.toList_none, List.cons_append, List.nil_append, l_0, l_1, l_m1, l_2, l_3, l_4, l_5, l_6, l_7, l_8, l_9, l_10, l_16, l_20, l_40, l_48, l_99, l_200, l_999, l_9999, li_73, li_78, li_m1000000, li_90, li_251, li_400, li_2400, li_91, li_153, li_173, li_96, li_32, li_92, li_12, li_93, li_80, li_14, li_1000000000, li_30, li_11, li_24, li_13, li_97, li_64, li_1600, li_49, li_255, li_2147483647, li_12345, li_1103515245, li_59, li_57, li_122, li_1023, li_1000000, li_52, li_51, li_50, li_47, li_46, li_45, li_44, li_43, li_42, li_41, li_39, li_38, li_37, li_36, li_35, li_34, li_33, li_29, li_28, li_27, li_26, li_25, li_23, li_22, li_21, li_19, li_18, li_17, li_15, li_m8, li_m2, li_60, li_54, li_2907, li_151, li_127, oN, iI_add, iI_sub, iI_mul, iI_neg, Int.reduceAdd, Int.reduceSub, Int.reduceMul, Int.reduceNeg, Int.toNat_natCast, iI_cl, sg_65_37, sg_65_41, sg_65_42, k_30 g1, k_35 g1, eD, Int.add_zero]
            all_goals first | assumption | omega | exact cat_n | exact cat_i _ | exact cat_r _ | rfl
    · have q' : ¬ ps_far (kf K a) (kf K b) t ≤ ke K * ke K := q
      have hbg : ¬ bg (wt K a b) t := fun y => q (bg_w y)
      refine ⟨(I1, 0, .int (iI (ps_far (kf K a) (kf K b) t)), .int (iI 0)), ⟨f1, Or.inl ⟨rfl, fun r e => (Nat.succ.inj e) ▸ q⟩, ⟨rfl, rfl⟩, fun v u hps => ?_⟩, ?_⟩
      · try dsimp only
        obtain ⟨p1, p2, p3, p4, p5, p6⟩ := hps
        have hut : u ≤ t := by
          apply Classical.byContradiction
          intro y
          exact q (p5 t (by omega) (by omega))
        refine hp v u ⟨p1, p2, p3, hut, p5, ?_⟩
        by_cases e : u = t
        · exact Or.inl e
        · rcases p6 with y | y
          · omega
          · exact Or.inr y
      · try dsimp only
        rw [cS, ci_f hbg, sg_65_30]
        · simp (disch := first | omega | assumption | exact cat_n | exact cat_i _ | exact cat_r _ | (simp (disch := omega) only [l_0, l_1, l_m1, l_2, l_3, l_4, l_5, l_6, l_7, l_8, l_9, l_10, l_16, l_20, l_40, l_48, l_99, l_200, l_999, l_9999, li_73, li_78, li_m1000000, li_90, li_251, li_400, li_2400, li_91, li_153, li_173, li_96, li_32, li_92, li_12, li_93, li_80, li_14, li_1000000000, li_30, li_11, li_24, li_13, li_97, li_64, li_1600, li_49, li_255, li_2147483647, li_12345, li_1103515245, li_59, li_57, li_122, li_1023, li_1000000, li_52, li_51, li_50, li_47, li_46, li_45, li_44, li_43, li_42, li_41, li_39, li_38, li_37, li_36, li_35, li_34, li_33, li_29, li_28, li_27, li_26, li_25, li_23, li_22, li_21, li_19, li_18, li_17, li_15, li_m8, li_m2, li_60, li_54, li_2907, li_151, li_127, oN, iI_add, iI_sub, iI_mul, iI_neg, Int.reduceAdd, Int.reduceSub, Int.reduceMul, Int.reduceNeg, Int.toNat_natCast, iI_lt, iI_le, iI_eq, iI_cl, true_or, or_true, false_or, or_false, true_and, and_true, not_true_eq_false, not_false_eq_true]; first | done | omega)) only [↓if_pos, ↓if_neg, Option.bind_some, Option.toList_some, Option.toList_none, List.cons_append, List.nil_append, l_0, l_1, l_m1, l_2, l_3, l_4, l_5, l_6, l_7, l_8, l_9, l_10, l_16, l_20, l_40, l_48, l_99, l_200, l_999, l_9999, li_73, li_78, li_m1000000, li_90, li_251, li_400, li_2400, li_91, li_153, li_173, li_96, li_32, li_92, li_12, li_93, li_80, li_14, li_1000000000, li_30, li_11, li_24, li_13, li_97, li_64, li_1600, li_49, li_255, li_2147483647, li_12345, li_1103515245, li_59, li_57, li_122, li_1023, li_1000000, li_52, li_51, li_50, li_47, li_46, li_45, li_44, li_43, li_42, li_41, li_39, li_38, li_37, li_36, li_35, li_34, li_33, li_29, li_28, li_27, li_26, li_25, li_23, li_22, li_21, li_19, li_18, li_17, li_15, li_m8, li_m2, li_60, li_54, li_2907, li_151, li_127, oN, iI_add, iI_sub, iI_mul, iI_neg, Int.reduceAdd, Int.reduceSub, Int.reduceMul, Int.reduceNeg, Int.toNat_natCast, iI_cl, sg_65_37, sg_65_41, sg_65_42, k_30 g1, k_35 g1, eD, Int.add_zero]
        all_goals first | assumption | omega | exact cat_n | exact cat_i _ | exact cat_r _ | rfl) (by
    rintro ⟨I1, x, wv, vv⟩ ⟨f1, hx, ⟨hw, hv⟩, hp⟩
    try dsimp only at f1 hx hw hv hp
    refine ⟨I1, ?_, f1, hp⟩
    try dsimp only
    rw [sg_65_30]
    · simp (disch := first | omega | assumption | exact cat_n | exact cat_i _ | exact cat_r _ | (simp (disch := omega) only [l_0, l_1, l_m1, l_2, l_3, l_4, l_5, l_6, l_7, l_8, l_9, l_10, l_16, l_20, l_40, l_48, l_99, l_200, l_999, l_9999, li_73, li_78, li_m1000000, li_90, li_251, li_400, li_2400, li_91, li_153, li_173, li_96, li_32, li_92, li_12, li_93, li_80, li_14, li_1000000000, li_30, li_11, li_24, li_13, li_97, li_64, li_1600, li_49, li_255, li_2147483647, li_12345, li_1103515245, li_59, li_57, li_122, li_1023, li_1000000, li_52, li_51, li_50, li_47, li_46, li_45, li_44, li_43, li_42, li_41, li_39, li_38, li_37, li_36, li_35, li_34, li_33, li_29, li_28, li_27, li_26, li_25, li_23, li_22, li_21, li_19, li_18, li_17, li_15, li_m8, li_m2, li_60, li_54, li_2907, li_151, li_127, oN, iI_add, iI_sub, iI_mul, iI_neg, Int.reduceAdd, Int.reduceSub, Int.reduceMul, Int.reduceNeg, Int.toNat_natCast, iI_lt, iI_le, iI_eq, iI_cl, true_or, or_true, false_or, or_false, true_and, and_true, not_true_eq_false, not_false_eq_true]; first | done | omega)) only [↓if_pos, ↓if_neg, Option.bind_some, Option.toList_some, Option.toList_none, List.cons_append, List.nil_append, l_0, l_1, l_m1, l_2, l_3, l_4, l_5, l_6, l_7, l_8, l_9, l_10, l_16, l_20, l_40, l_48, l_99, l_200, l_999, l_9999, li_73, li_78, li_m1000000, li_90, li_251, li_400, li_2400, li_91, li_153, li_173, li_96, li_32, li_92, li_12, li_93, li_80, li_14, li_1000000000, li_30, li_11, li_24, li_13, li_97, li_64, li_1600, li_49, li_255, li_2147483647, li_12345, li_1103515245, li_59, li_57, li_122, li_1023, li_1000000, li_52, li_51, li_50, li_47, li_46, li_45, li_44, li_43, li_42, li_41, li_39, li_38, li_37, li_36, li_35, li_34, li_33, li_29, li_28, li_27, li_26, li_25, li_23, li_22, li_21, li_19, li_18, li_17, li_15, li_m8, li_m2, li_60, li_54, li_2907, li_151, li_127, oN, iI_add, iI_sub, iI_mul, iI_neg, Int.reduceAdd, Int.reduceSub, Int.reduceMul, Int.reduceNeg, Int.toNat_natCast, iI_cl]
    all_goals first | assumption | omega | exact cat_n | exact cat_i _ | exact cat_r _ | rfl) (I, 0, .null, .null) ⟨fun _ _ _ => rfl, Or.inl ⟨rfl, fun r e => by omega⟩, ⟨rfl, rfl⟩, fun v u hps => by have := hps.2.2.1; have := hps.2.2.2.1; omega⟩
  obtain ⟨I', e1, e2⟩ := L
  refine ⟨I', ?_, e2⟩
  try dsimp only at e1
  rw [ci_0, c0] at e1
  have h40 := k_40 (X := X) (J := J) h ha hb
  change am_do X 40 [.ref (am_bd a), .ref (am_bd b)] (am_sh I J) = some (some (.int (iI (cy_ K a b))), am_sh I J) at h40
  simp (disch := first | omega | assumption | exact cat_n | exact cat_i _ | exact cat_r _ | (simp (disch := omega) only [l_0, l_1, l_m1, l_2, l_3, l_4, l_5, l_6, l_7, l_8, l_9, l_10, l_16, l_20, l_40, l_48, l_99, l_200, l_999, l_9999, li_73, li_78, li_m1000000, li_90, li_251, li_400, li_2400, li_91, li_153, li_173, li_96, li_32, li_92, li_12, li_93, li_80, li_14, li_1000000000, li_30, li_11, li_24, li_13, li_97, li_64, li_1600, li_49, li_255, li_2147483647, li_12345, li_1103515245, li_59, li_57, li_122, li_1023, li_1000000, li_52, li_51, li_50, li_47, li_46, li_45, li_44, li_43, li_42, li_41, li_39, li_38, li_37, li_36, li_35, li_34, li_33, li_29, li_28, li_27, li_26, li_25, li_23, li_22, li_21, li_19, li_18, li_17, li_15, li_m8, li_m2, li_60, li_54, li_2907, li_151, li_127, oN, iI_add, iI_sub, iI_mul, iI_neg, Int.reduceAdd, Int.reduceSub, Int.reduceMul, Int.reduceNeg, Int.toNat_natCast, iI_lt, iI_le, iI_eq, iI_cl, true_or, or_true, false_or, or_false, true_and, and_true, not_true_eq_false, not_false_eq_true]; first | done | omega)) only [↓if_pos, ↓if_neg, Option.bind_some, Option.toList_some, Option.toList_none, List.cons_append, List.nil_append, l_0, l_1, l_m1, l_2, l_3, l_4, l_5, l_6, l_7, l_8, l_9, l_10, l_16, l_20, l_40, l_48, l_99, l_200, l_999, l_9999, li_73, li_78, li_m1000000, li_90, li_251, li_400, li_2400, li_91, li_153, li_173, li_96, li_32, li_92, li_12, li_93, li_80, li_14, li_1000000000, li_30, li_11, li_24, li_13, li_97, li_64, li_1600, li_49, li_255, li_2147483647, li_12345, li_1103515245, li_59, li_57, li_122, li_1023, li_1000000, li_52, li_51, li_50, li_47, li_46, li_45, li_44, li_43, li_42, li_41, li_39, li_38, li_37, li_36, li_35, li_34, li_33, li_29, li_28, li_27, li_26, li_25, li_23, li_22, li_21, li_19, li_18, li_17, li_15, li_m8, li_m2, li_60, li_54, li_2907, li_151, li_127, oN, iI_add, iI_sub, iI_mul, iI_neg, Int.reduceAdd, Int.reduceSub, Int.reduceMul, Int.reduceNeg, Int.toNat_natCast, iI_cl, cl_65, sg_65_e0, sg_65_15, h40, CS_e h, e1]
end S46
