/-! GROUPS -/
/-- b can be come to from a by steps of R -/
def rc (R : Nat → Nat → Prop) (a b : Nat) : Prop := ∀ S : Nat → Prop, S a → (∀ x y, S x → R x y → S y) → S b
section RC
variable {R R' : Nat → Nat → Prop} {a b c x y n : Nat}
theorem rc_rfl : rc R a a := fun _ h _ => h
theorem rc_tr (h1 : rc R a b) (h2 : rc R b c) : rc R a c := fun S h hs => h2 S (h1 S h hs) hs
theorem rc_st (h : R a b) : rc R a b := fun _ h1 hs => hs a b h1 h
theorem rc_sym (hR : ∀ x y, R x y → R y x) (h : rc R a b) : rc R b a := h (fun x => rc R x a) rc_rfl (fun x y h1 h2 => rc_tr (rc_st (hR x y h2)) h1)
theorem rc_mono (hR : ∀ x y, R x y → R' x y) (h : rc R a b) : rc R' a b := fun S h1 hs => h S h1 (fun x y h2 h3 => hs x y h2 (hR x y h3))
theorem rc_cg (hR : ∀ x y, R x y ↔ R' x y) : rc R a b ↔ rc R' a b := ⟨rc_mono (fun x y => (hR x y).mp), rc_mono (fun x y => (hR x y).mpr)⟩
/-- the least of a group -/
def lgp (R : Nat → Nat → Prop) (x g : Nat) : Prop := rc R x g ∧ ∀ y, rc R x y → g ≤ y
theorem lgp_one {g g' : Nat} (h1 : lgp R x g) (h2 : lgp R x g') : g = g' := Nat.le_antisymm (h1.2 g' h2.1) (h2.2 g h1.1)
theorem lgp_cg (hR : ∀ x y, R x y ↔ R' x y) {g : Nat} (h : lgp R x g) : lgp R' x g := ⟨(rc_cg hR).mp h.1, fun y hy => h.2 y ((rc_cg hR).mpr hy)⟩
theorem lgp_eq (hs : ∀ x y, R x y → R y x) {g g' : Nat} (h1 : lgp R x g) (h2 : lgp R y g') : g = g' ↔ rc R x y := by
  constructor
  · intro e
    subst e
    exact rc_tr h1.1 (rc_sym hs h2.1)
  · intro h
    exact Nat.le_antisymm (h1.2 g' (rc_tr h h2.1)) (h2.2 g (rc_tr (rc_sym hs h) h1.1))
/-- one pair more -/
def rad (R : Nat → Nat → Prop) (a b x y : Nat) : Prop := R x y ∨ (x = a ∧ y = b) ∨ (x = b ∧ y = a)
theorem rc_rad (h : rc (rad R a b) x y) : rc R x y ∨ (rc R x a ∧ rc R b y) ∨ (rc R x b ∧ rc R a y) := by
  refine h (fun y => rc R x y ∨ (rc R x a ∧ rc R b y) ∨ (rc R x b ∧ rc R a y)) (Or.inl rc_rfl) ?_
  rintro u v hu (h1 | ⟨rfl, rfl⟩ | ⟨rfl, rfl⟩)
  · rcases hu with q | ⟨q1, q2⟩ | ⟨q1, q2⟩
    · exact Or.inl (rc_tr q (rc_st h1))
    · exact Or.inr (Or.inl ⟨q1, rc_tr q2 (rc_st h1)⟩)
    · exact Or.inr (Or.inr ⟨q1, rc_tr q2 (rc_st h1)⟩)
  · rcases hu with q | ⟨q1, q2⟩ | ⟨q1, q2⟩
    · exact Or.inr (Or.inl ⟨q, rc_rfl⟩)
    · exact Or.inr (Or.inl ⟨q1, rc_rfl⟩)
    · exact Or.inl q1
  · rcases hu with q | ⟨q1, q2⟩ | ⟨q1, q2⟩
    · exact Or.inr (Or.inr ⟨q, rc_rfl⟩)
    · exact Or.inl q1
    · exact Or.inr (Or.inr ⟨q1, rc_rfl⟩)
theorem lgp_rad (hs : ∀ x y, R x y → R y x) {g ga gb : Nat} (hg : lgp R x g) (ha : lgp R a ga) (hb : lgp R b gb) : lgp (rad R a b) x (if g = max ga gb then min ga gb else g) := by
  have hm : ∀ {u v}, rc R u v → rc (rad R a b) u v := fun q => rc_mono (fun _ _ z => Or.inl z) q
  have e1 : rc (rad R a b) a b := rc_st (Or.inr (Or.inl ⟨rfl, rfl⟩))
  have e2 : rc (rad R a b) b a := rc_st (Or.inr (Or.inr ⟨rfl, rfl⟩))
  have xa := lgp_eq hs hg ha
  have xb := lgp_eq hs hg hb
  constructor
  · by_cases q : g = max ga gb
    · rw [if_pos q]
      rcases Nat.le_total ga gb with z | z
      · rw [Nat.max_eq_right z] at q
        rw [Nat.min_eq_left z]
        exact rc_tr (hm (xb.mp q)) (rc_tr e2 (hm ha.1))
      · rw [Nat.max_eq_left z] at q
        rw [Nat.min_eq_right z]
        exact rc_tr (hm (xa.mp q)) (rc_tr e1 (hm hb.1))
    · rw [if_neg q]
      exact hm hg.1
  · intro y hy
    have key : ∀ g', (g = max ga gb → g' = min ga gb) → (g ≠ max ga gb → g' = g) → g' ≤ y := by
      intro g' k1 k2
      rcases rc_rad hy with q | ⟨q1, q2⟩ | ⟨q1, q2⟩
      · have := hg.2 y q
        by_cases z : g = max ga gb
        · have := k1 z; omega
        · have := k2 z; omega
      · have z1 := xa.mpr q1
        have z2 := hb.2 y q2
        by_cases z : g = max ga gb
        · have := k1 z; omega
        · have := k2 z; omega
      · have z1 := xb.mpr q1
        have z2 := ha.2 y q2
        by_cases z : g = max ga gb
        · have := k1 z; omega
        · have := k2 z; omega
    by_cases z : g = max ga gb
    · rw [if_pos z]
      exact key _ (fun _ => rfl) (fun w => absurd z w)
    · rw [if_neg z]
      exact key _ (fun w => absurd w z) (fun _ => rfl)
end RC
section ST2
variable {p q : Nat → Prop} {k n : Nat}
theorem st_or (hn : n ≤ 31) : st p n ||| st q n = st (fun x => p x ∨ q x) n := by
  refine b_ext (fun i hi => ?_)
  rw [b_or, b_st hn i hi, b_st hn i hi, b_st hn i hi]
  by_cases h : i < n
  · by_cases h1 : p i
    · rw [bl_t h1, bl_t (p := p i ∨ q i) (Or.inl h1)]; simp [h]
    · by_cases h2 : q i
      · rw [bl_t h2, bl_t (p := p i ∨ q i) (Or.inr h2)]; simp [h]
      · rw [bl_f h1, bl_f h2, bl_f (p := p i ∨ q i) (fun z => z.elim h1 h2)]; simp
  · simp [h]
theorem st_and (hn : n ≤ 31) : st p n &&& st q n = st (fun x => p x ∧ q x) n := by
  refine b_ext (fun i hi => ?_)
  rw [b_and, b_st hn i hi, b_st hn i hi, b_st hn i hi]
  by_cases h : i < n
  · by_cases h1 : p i
    · by_cases h2 : q i
      · rw [bl_t h1, bl_t h2, bl_t (p := p i ∧ q i) ⟨h1, h2⟩]; simp [h]
      · rw [bl_t h1, bl_f h2, bl_f (p := p i ∧ q i) (fun z => h2 z.2)]; simp
    · rw [bl_f h1, bl_f (p := p i ∧ q i) (fun z => h1 z.1)]; simp
  · simp [h]
theorem st_inj (hn : n ≤ 31) : st p n = st q n ↔ ∀ k, k < n → (p k ↔ q k) := by
  constructor
  · intro h k hk
    have e1 := b_st (p := p) hn k (by omega)
    have e2 := b_st (p := q) hn k (by omega)
    rw [h, e2] at e1
    simp only [hk, decide_true, Bool.true_and] at e1
    rw [← bl_iff (p := p k), ← bl_iff (p := q k), e1]
  · exact st_cg
theorem st_one (hn : n ≤ 31) (hk : k < n) : iI 1 <<< (iI k &&& 31) = st (fun x => x = k) n := by
  rw [← nI_iI]
  refine b_ext (fun i hi => ?_)
  have e1 : iI 1 = 1 := rfl
  rw [e1, b_shl k (by omega) _ hi, b_st hn i hi, b_one]
  by_cases h : i = k
  · subst h
    rw [bl_t (p := i = i) rfl]
    simp [hk]
  · rw [bl_f h]
    by_cases h2 : k ≤ i
    · simp [h2, show ¬ (i - k = 0) by omega]
    · simp [h2]
theorem st_orz (x : Int32) : x ||| iI 0 = x := by
  refine b_ext (fun i hi => ?_)
  have e1 : iI 0 = 0 := rfl
  rw [b_or, e1, b_0, Bool.or_false]
end ST2
/-- near, as a relation -/
def nq (K : Sk) (x y : Nat) : Prop := x ≠ y ∧ nk K x y
section S48
variable {X : am_X} {K : Sk} {I : Nat → Nat → Int32} {J : Nat → Nat → Int64} {a b o : Nat}
theorem nq_com (x y : Nat) (h : nq K x y) : nq K y x := ⟨h.1.symm, nk_com.mp h.2⟩
theorem nq_nb {x y : Nat} (hx : ku K x) : nq K x y ↔ nb K x y := by
  unfold nq nb nk
  exact ⟨fun h => ⟨h.1.symm, h.2.2⟩, fun h => ⟨h.1.symm, hx, h.2⟩⟩
theorem rc_ku {x y : Nat} (hx : ku K x) (h : rc (nq K) x y) : ku K y := h (ku K) hx (fun _ _ _ h2 => h2.2.2.1)
theorem k_60 (h : CS K I) (hC : rl_C I) (hb : ku K b) : ∃ (I' : Nat → Nat → Int32) (g : Nat), am_do X 60 [.ref 83, .int (iI b)] (am_sh I J) = some (some (.int (iI g)), am_sh I' J) ∧ Fr W_q I I' ∧ rl_C I' ∧ lgp (nq K) b g := by
  have hn := K_n (CS_k h)
  have hb1 := hb.1
  -- the last loop: the least
  have E : ∀ (I1 : Nat → Nat → Int32) (w v : Value), Fr W_q I I1 → rl_C I1 → w.category = 1 → v.category = 1 → ∃ (I' : Nat → Nat → Int32) (g : Nat), am_ev X amP_60 45 [.ref 83, .int (iI b), .int (st (rc (nq K) b) (kn K)), .int (iI 0), w, v] [] (am_sh I1 J) = some (some (.int (iI g)), am_sh I' J) ∧ Fr W_q I I' ∧ rl_C I' ∧ lgp (nq K) b g := by
    intro I1 w v f1 c1 hw hv
    have L := Lp1 (n := b) (G := fun k (_ : Unit) => am_ev X amP_60 45 [.ref 83, .int (iI b), .int (st (rc (nq K) b) (kn K)), .int (iI k), w, v] [] (am_sh I1 J)) (Iv := fun k _ => ∀ y, y < k → ¬ rc (nq K) b y) (P := fun r => ∃ g : Nat, r = some (some (.int (iI g)), am_sh I1 J) ∧ lgp (nq K) b g) (by
      intro k u hk hi
      by_cases q : rc (nq K) b k
      · left
        refine ⟨k, ?_, q, fun y hy => ?_⟩
        · try dsimp only
          rw [sg_60_45]
          · simp (disch := first | omega | assumption | exact cat_n | exact cat_i _ | exact cat_r _ | (simp (disch := omega) only [l_0, l_1, l_m1, l_2, l_3, l_4, l_5, l_6, l_7, l_8, l_9, l_10, l_16, l_20, l_40, l_48, l_99, l_200, l_999, l_9999, li_73, li_78, li_m1000000, li_90, li_251, li_400, li_2400, li_91, li_153, li_173, li_96, li_32, li_92, li_12, li_93, li_80, li_14, li_1000000000, li_30, li_11, li_24, li_13, li_97, li_64, li_1600, li_49, li_255, li_2147483647, li_12345, li_1103515245, li_59, li_57, li_122, li_1023, li_1000000, li_52, li_51, li_50, li_47, li_46, li_45, li_44, li_43, li_42, li_41, li_39, li_38, li_37, li_36, li_35, li_34, li_33, li_29, li_28, li_27, li_26, li_25, li_23, li_22, li_21, li_19, li_18, li_17, li_15, li_m8, li_m2, li_60, li_54, li_2907, li_151, li_127, oN, iI_add, iI_sub, iI_mul, iI_neg, Int.reduceAdd, Int.reduceSub, Int.reduceMul, Int.reduceNeg, Int.toNat_natCast, iI_lt, iI_le, iI_eq, iI_cl, true_or, or_true, false_or, or_false, true_and, and_true, not_true_eq_false, not_false_eq_true]; first | done | omega)) only [↓if_pos, ↓if_neg, Option.bind_some, Option.toList_some, Option.toList_none, List.cons_append, List.nil_append, l_0, l_1, l_m1, l_2, l_3, l_4, l_5, l_6, l_7, l_8, l_9, l_10, l_16, l_20, l_40, l_48, l_99, l_200, l_999, l_9999, li_73, li_78, li_m1000000, li_90, li_251, li_400, li_2400, li_91, li_153, li_173, li_96, li_32, li_92, li_12, li_93, li_80, li_14, li_1000000000, li_30, li_11, li_24, li_13, li_97, li_64, li_1600, li_49, li_255, li_2147483647, li_12345, li_1103515245, li_59, li_57, li_122, li_1023, li_1000000, li_52, li_51, li_50, li_47, li_46, li_45, li_44, li_43, li_42, li_41, li_39, li_38, li_37, li_36, li_35, li_34, li_33, li_29, li_28, li_27, li_26, li_25, li_23, li_22, li_21, li_19, li_18, li_17, li_15, li_m8, li_m2, li_60, li_54, li_2907, li_151, li_127, oN, iI_add, iI_sub, iI_mul, iI_neg, Int.reduceAdd, Int.reduceSub, Int.reduceMul, Int.reduceNeg, Int.toNat_natCast, iI_cl, st_at (p := rc (nq K) b) (n := kn K) (k := k) (by omega) (by omega) q]
          all_goals first | assumption | omega | exact cat_n | exact cat_i _ | exact cat_r _ | rfl
        · apply Classical.byContradiction
          intro z
          exact hi y (by omega) hy
      · right
        refine ⟨u, fun y hy => ?_, ?_⟩
        · by_cases e : y = k
          · subst e; exact q
          · exact hi y (by omega)
        · try dsimp only
          rw [cS, sg_60_45]
          · simp (disch := first | omega | assumption | exact cat_n | exact cat_i _ | exact cat_r _ | (simp (disch := omega) only [l_0, l_1, l_m1, l_2, l_3, l_4, l_5, l_6, l_7, l_8, l_9, l_10, l_16, l_20, l_40, l_48, l_99, l_200, l_999, l_9999, li_73, li_78, li_m1000000, li_90, li_251, li_400, li_2400, li_91, li_153, li_173, li_96, li_32, li_92, li_12, li_93, li_80, li_14, li_1000000000, li_30, li_11, li_24, li_13, li_97, li_64, li_1600, li_49, li_255, li_2147483647, li_12345, li_1103515245, li_59, li_57, li_122, li_1023, li_1000000, li_52, li_51, li_50, li_47, li_46, li_45, li_44, li_43, li_42, li_41, li_39, li_38, li_37, li_36, li_35, li_34, li_33, li_29, li_28, li_27, li_26, li_25, li_23, li_22, li_21, li_19, li_18, li_17, li_15, li_m8, li_m2, li_60, li_54, li_2907, li_151, li_127, oN, iI_add, iI_sub, iI_mul, iI_neg, Int.reduceAdd, Int.reduceSub, Int.reduceMul, Int.reduceNeg, Int.toNat_natCast, iI_lt, iI_le, iI_eq, iI_cl, true_or, or_true, false_or, or_false, true_and, and_true, not_true_eq_false, not_false_eq_true]; first | done | omega)) only [↓if_pos, ↓if_neg, Option.bind_some, Option.toList_some, Option.toList_none, List.cons_append, List.nil_append, l_0, l_1, l_m1, l_2, l_3, l_4, l_5, l_6, l_7, l_8, l_9, l_10, l_16, l_20, l_40, l_48, l_99, l_200, l_999, l_9999, li_73, li_78, li_m1000000, li_90, li_251, li_400, li_2400, li_91, li_153, li_173, li_96, li_32, li_92, li_12, li_93, li_80, li_14, li_1000000000, li_30, li_11, li_24, li_13, li_97, li_64, li_1600, li_49, li_255, li_2147483647, li_12345, li_1103515245, li_59, li_57, li_122, li_1023, li_1000000, li_52, li_51, li_50, li_47, li_46, li_45, li_44, li_43, li_42, li_41, li_39, li_38, li_37, li_36, li_35, li_34, li_33, li_29, li_28, li_27, li_26, li_25, li_23, li_22, li_21, li_19, li_18, li_17, li_15, li_m8, li_m2, li_60, li_54, li_2907, li_151, li_127, oN, iI_add, iI_sub, iI_mul, iI_neg, Int.reduceAdd, Int.reduceSub, Int.reduceMul, Int.reduceNeg, Int.toNat_natCast, iI_cl, st_no (p := rc (nq K) b) (n := kn K) (k := k) (by omega) (by omega) (fun z => q z.2)]
          all_goals first | assumption | omega | exact cat_n | exact cat_i _ | exact cat_r _ | rfl) (by
      intro u hi
      refine ⟨b, ?_, rc_rfl, fun y hy => ?_⟩
      · try dsimp only
        rw [sg_60_45]
        · simp (disch := first | omega | assumption | exact cat_n | exact cat_i _ | exact cat_r _ | (simp (disch := omega) only [l_0, l_1, l_m1, l_2, l_3, l_4, l_5, l_6, l_7, l_8, l_9, l_10, l_16, l_20, l_40, l_48, l_99, l_200, l_999, l_9999, li_73, li_78, li_m1000000, li_90, li_251, li_400, li_2400, li_91, li_153, li_173, li_96, li_32, li_92, li_12, li_93, li_80, li_14, li_1000000000, li_30, li_11, li_24, li_13, li_97, li_64, li_1600, li_49, li_255, li_2147483647, li_12345, li_1103515245, li_59, li_57, li_122, li_1023, li_1000000, li_52, li_51, li_50, li_47, li_46, li_45, li_44, li_43, li_42, li_41, li_39, li_38, li_37, li_36, li_35, li_34, li_33, li_29, li_28, li_27, li_26, li_25, li_23, li_22, li_21, li_19, li_18, li_17, li_15, li_m8, li_m2, li_60, li_54, li_2907, li_151, li_127, oN, iI_add, iI_sub, iI_mul, iI_neg, Int.reduceAdd, Int.reduceSub, Int.reduceMul, Int.reduceNeg, Int.toNat_natCast, iI_lt, iI_le, iI_eq, iI_cl, true_or, or_true, false_or, or_false, true_and, and_true, not_true_eq_false, not_false_eq_true]; first | done | omega)) only [↓if_pos, ↓if_neg, Option.bind_some, Option.toList_some, Option.toList_none, List.cons_append, List.nil_append, l_0, l_1, l_m1, l_2, l_3, l_4, l_5, l_6, l_7, l_8, l_9, l_10, l_16, l_20, l_40, l_48, l_99, l_200, l_999, l_9999, li_73, li_78, li_m1000000, li_90, li_251, li_400, li_2400, li_91, li_153, li_173, li_96, li_32, li_92, li_12, li_93, li_80, li_14, li_1000000000, li_30, li_11, li_24, li_13, li_97, li_64, li_1600, li_49, li_255, li_2147483647, li_12345, li_1103515245, li_59, li_57, li_122, li_1023, li_1000000, li_52, li_51, li_50, li_47, li_46, li_45, li_44, li_43, li_42, li_41, li_39, li_38, li_37, li_36, li_35, li_34, li_33, li_29, li_28, li_27, li_26, li_25, li_23, li_22, li_21, li_19, li_18, li_17, li_15, li_m8, li_m2, li_60, li_54, li_2907, li_151, li_127, oN, iI_add, iI_sub, iI_mul, iI_neg, Int.reduceAdd, Int.reduceSub, Int.reduceMul, Int.reduceNeg, Int.toNat_natCast, iI_cl]
        all_goals first | assumption | omega | exact cat_n | exact cat_i _ | exact cat_r _ | rfl
      · apply Classical.byContradiction
        intro z
        exact hi y (by omega) hy) () (fun y hy => by omega)
    obtain ⟨g, e1, e2⟩ := L
    exact ⟨I1, g, e1, f1, c1, e2⟩
  -- the rounds
  have L := Lp1 (n := 10) (G := fun r (s : (Nat → Nat → Int32) × (Nat → Prop) × Value × Value) => am_ev X amP_60 6 [.ref 83, .int (iI b), .int (st s.2.1 (kn K)), .int (iI r), s.2.2.1, s.2.2.2] [] (am_sh s.1 J)) (Iv := fun r s => (Fr W_q I s.1 ∧ rl_C s.1) ∧ (s.2.2.1.category = 1 ∧ s.2.2.2.category = 1) ∧ s.2.1 b ∧ (∀ y, s.2.1 y → rc (nq K) b y) ∧ (r : Int) + 1 ≤ ci s.2.1 (kn K)) (P := fun r => ∃ (I' : Nat → Nat → Int32) (g : Nat), r = some (some (.int (iI g)), am_sh I' J) ∧ Fr W_q I I' ∧ rl_C I' ∧ lgp (nq K) b g) (by
    rintro r ⟨I1, S, w, v⟩ hr ⟨⟨f1, c1⟩, ⟨hw, hv⟩, s1, s2, s3⟩
    try dsimp only at f1 c1 hw hv s1 s2 s3
    -- one round
    have M := Lp1 (n := kn K) (G := fun o (I2 : Nat → Nat → Int32) => am_ev X amP_60 13 [.ref 83, .int (iI b), .int (st S (kn K)), .int (iI r), .int (st (fun x => S x ∨ ∃ y, y < o ∧ S y ∧ nb K y x) (kn K)), .int (iI o)] [] (am_sh I2 J)) (Iv := fun o I2 => Fr W_q I I2 ∧ rl_C I2) (P := fun z => ∃ I2 : Nat → Nat → Int32, z = am_ev X amP_60 13 [.ref 83, .int (iI b), .int (st S (kn K)), .int (iI r), .int (st (fun x => S x ∨ ∃ y, y < kn K ∧ S y ∧ nb K y x) (kn K)), .int (iI (kn K))] [] (am_sh I2 J) ∧ Fr W_q I I2 ∧ rl_C I2) (by
      rintro o I2 ho ⟨f2, c2⟩
      right
      have g2 : CS K I2 := CS_fr h f2
      by_cases q : S o
      · obtain ⟨I3, e3, f3, c3⟩ := k_58 (X := X) (J := J) g2 c2 (b := o) ho
        refine ⟨I3, ⟨Fr_tr f2 f3, c3⟩, ?_⟩
        have es : st (fun x => S x ∨ ∃ y, y < o + 1 ∧ S y ∧ nb K y x) (kn K) = st (fun x => S x ∨ ∃ y, y < o ∧ S y ∧ nb K y x) (kn K) ||| st (nb K o) (kn K) := by
          rw [st_or (by omega)]
          refine st_cg (fun k hk => ?_)
          constructor
          · rintro (z | ⟨y, y1, y2, y3⟩)
            · exact Or.inl (Or.inl z)
            · by_cases e : y = o
              · subst e; exact Or.inr y3
              · exact Or.inl (Or.inr ⟨y, by omega, y2, y3⟩)
          · rintro ((z | ⟨y, y1, y2, y3⟩) | z)
            · exact Or.inl z
            · exact Or.inr ⟨y, by omega, y2, y3⟩
            · exact Or.inr ⟨o, by omega, q, z⟩
        try dsimp only
        rw [cS, es, sg_60_13]
        simp (disch := first | omega | assumption | exact cat_n | exact cat_i _ | exact cat_r _ | (simp (disch := omega) only [l_0, l_1, l_m1, l_2, l_3, l_4, l_5, l_6, l_7, l_8, l_9, l_10, l_16, l_20, l_40, l_48, l_99, l_200, l_999, l_9999, li_73, li_78, li_m1000000, li_90, li_251, li_400, li_2400, li_91, li_153, li_173, li_96, li_32, li_92, li_12, li_93, li_80, li_14, li_1000000000, li_30, li_11, li_24, li_13, li_97, li_64, li_1600, li_49, li_255, li_2147483647, li_12345, li_1103515245, li_59, li_57, li_122, li_1023, li_1000000, li_52, li_51, li_50, li_47, li_46, li_45, li_44, li_43, li_42, li_41, li_39, li_38, li_37, li_36, li_35, li_34, li_33, li_29, li_28, li_27, li_26, li_25, li_23, li_22, li_21, li_19, li_18, li_17, li_15, li_m8, li_m2, li_60, li_54, li_2907, li_151, li_127, oN, iI_add, iI_sub, iI_mul, iI_neg, Int.reduceAdd, Int.reduceSub, Int.reduceMul, Int.reduceNeg, Int.toNat_natCast, iI_lt, iI_le, iI_eq, iI_cl, true_or, or_true, false_or, or_false, true_and, and_true, not_true_eq_false, not_false_eq_true]; first | done | omega)) only [↓if_pos, ↓if_neg, Option.bind_some, Option.toList_some, Option.toList_none, List.cons_append, List.nil_append, l_0, l_1, l_m1, l_2, l_3, l_4, l_5, l_6, l_7, l_8, l_9, l_10, l_16, l_20, l_40, l_48, l_99, l_200, l_999, l_9999, li_73, li_78, li_m1000000, li_90, li_251, li_400, li_2400, li_91, li_153, li_173, li_96, li_32, li_92, li_12, li_93, li_80, li_14, li_1000000000, li_30, li_11, li_24, li_13, li_97, li_64, li_1600, li_49, li_255, li_2147483647, li_12345, li_1103515245, li_59, li_57, li_122, li_1023, li_1000000, li_52, li_51, li_50, li_47, li_46, li_45, li_44, li_43, li_42, li_41, li_39, li_38, li_37, li_36, li_35, li_34, li_33, li_29, li_28, li_27, li_26, li_25, li_23, li_22, li_21, li_19, li_18, li_17, li_15, li_m8, li_m2, li_60, li_54, li_2907, li_151, li_127, oN, iI_add, iI_sub, iI_mul, iI_neg, Int.reduceAdd, Int.reduceSub, Int.reduceMul, Int.reduceNeg, Int.toNat_natCast, iI_cl, sg_60_29, CS_n g2, st_at (p := S) (n := kn K) (k := o) (by omega) ho q, e3]
      · refine ⟨I2, ⟨f2, c2⟩, ?_⟩
        have es : st (fun x => S x ∨ ∃ y, y < o + 1 ∧ S y ∧ nb K y x) (kn K) = st (fun x => S x ∨ ∃ y, y < o ∧ S y ∧ nb K y x) (kn K) := by
          refine st_cg (fun k hk => ?_)
          constructor
          · rintro (z | ⟨y, y1, y2, y3⟩)
            · exact Or.inl z
            · by_cases e : y = o
              · subst e; exact absurd y2 q
              · exact Or.inr ⟨y, by omega, y2, y3⟩
          · rintro (z | ⟨y, y1, y2, y3⟩)
            · exact Or.inl z
            · exact Or.inr ⟨y, by omega, y2, y3⟩
        try dsimp only
        rw [cS, es, sg_60_13]
        simp (disch := first | omega | assumption | exact cat_n | exact cat_i _ | exact cat_r _ | (simp (disch := omega) only [l_0, l_1, l_m1, l_2, l_3, l_4, l_5, l_6, l_7, l_8, l_9, l_10, l_16, l_20, l_40, l_48, l_99, l_200, l_999, l_9999, li_73, li_78, li_m1000000, li_90, li_251, li_400, li_2400, li_91, li_153, li_173, li_96, li_32, li_92, li_12, li_93, li_80, li_14, li_1000000000, li_30, li_11, li_24, li_13, li_97, li_64, li_1600, li_49, li_255, li_2147483647, li_12345, li_1103515245, li_59, li_57, li_122, li_1023, li_1000000, li_52, li_51, li_50, li_47, li_46, li_45, li_44, li_43, li_42, li_41, li_39, li_38, li_37, li_36, li_35, li_34, li_33, li_29, li_28, li_27, li_26, li_25, li_23, li_22, li_21, li_19, li_18, li_17, li_15, li_m8, li_m2, li_60, li_54, li_2907, li_151, li_127, oN, iI_add, iI_sub, iI_mul, iI_neg, Int.reduceAdd, Int.reduceSub, Int.reduceMul, Int.reduceNeg, Int.toNat_natCast, iI_lt, iI_le, iI_eq, iI_cl, true_or, or_true, false_or, or_false, true_and, and_true, not_true_eq_false, not_false_eq_true]; first | done | omega)) only [↓if_pos, ↓if_neg, Option.bind_some, Option.toList_some, Option.toList_none, List.cons_append, List.nil_append, l_0, l_1, l_m1, l_2, l_3, l_4, l_5, l_6, l_7, l_8, l_9, l_10, l_16, l_20, l_40, l_48, l_99, l_200, l_999, l_9999, li_73, li_78, li_m1000000, li_90, li_251, li_400, li_2400, li_91, li_153, li_173, li_96, li_32, li_92, li_12, li_93, li_80, li_14, li_1000000000, li_30, li_11, li_24, li_13, li_97, li_64, li_1600, li_49, li_255, li_2147483647, li_12345, li_1103515245, li_59, li_57, li_122, li_1023, li_1000000, li_52, li_51, li_50, li_47, li_46, li_45, li_44, li_43, li_42, li_41, li_39, li_38, li_37, li_36, li_35, li_34, li_33, li_29, li_28, li_27, li_26, li_25, li_23, li_22, li_21, li_19, li_18, li_17, li_15, li_m8, li_m2, li_60, li_54, li_2907, li_151, li_127, oN, iI_add, iI_sub, iI_mul, iI_neg, Int.reduceAdd, Int.reduceSub, Int.reduceMul, Int.reduceNeg, Int.toNat_natCast, iI_cl, CS_n g2, st_no (p := S) (n := kn K) (k := o) (by omega) (by omega) (fun z => q z.2), st_orz]) (by
      rintro I2 ⟨f2, c2⟩
      exact ⟨I2, rfl, f2, c2⟩) I1 ⟨f1, c1⟩
    obtain ⟨I2, e2, f2, c2⟩ := M
    try dsimp only at e2
    rw [c0] at e2
    have es0 : st (fun x => S x ∨ ∃ y, y < 0 ∧ S y ∧ nb K y x) (kn K) = st S (kn K) := st_cg (fun k hk => ⟨fun z => z.elim id (fun ⟨y, y1, _⟩ => by omega), Or.inl⟩)
    rw [es0] at e2
    have g2 : CS K I2 := CS_fr h f2
    have hF : ∀ y, (S y ∨ ∃ x, x < kn K ∧ S x ∧ nb K x y) → rc (nq K) b y := by
      rintro y (z | ⟨x, x1, x2, x3⟩)
      · exact s2 y z
      · exact rc_tr (s2 x x2) (rc_st ((nq_nb (rc_ku hb (s2 x x2))).mpr x3))
    by_cases q : st (fun x => S x ∨ ∃ y, y < kn K ∧ S y ∧ nb K y x) (kn K) = st S (kn K)
    · left
      have hS : st S (kn K) = st (rc (nq K) b) (kn K) := by
        rw [st_inj (by omega)] at q
        refine st_cg (fun k hk => ⟨s2 k, fun z => ?_⟩)
        refine z S s1 (fun x y h1 h2 => ?_)
        have hy := h2.2.2.1.1
        refine (q y hy).mp (Or.inr ⟨x, (rc_ku hb (s2 x h1)).1, h1, ?_⟩)
        exact (nq_nb (rc_ku hb (s2 x h1))).mp h2
      obtain ⟨I', g, a1, a2⟩ := E I2 (.int (st S (kn K))) (.int (iI (kn K))) f2 c2 rfl rfl
      rw [← hS] at a1
      refine ⟨I', g, ?_, a2⟩
      try dsimp only
      rw [sg_60_6]
      · rw [q] at e2
        simp (disch := first | omega | assumption | exact cat_n | exact cat_i _ | exact cat_r _ | (simp (disch := omega) only [l_0, l_1, l_m1, l_2, l_3, l_4, l_5, l_6, l_7, l_8, l_9, l_10, l_16, l_20, l_40, l_48, l_99, l_200, l_999, l_9999, li_73, li_78, li_m1000000, li_90, li_251, li_400, li_2400, li_91, li_153, li_173, li_96, li_32, li_92, li_12, li_93, li_80, li_14, li_1000000000, li_30, li_11, li_24, li_13, li_97, li_64, li_1600, li_49, li_255, li_2147483647, li_12345, li_1103515245, li_59, li_57, li_122, li_1023, li_1000000, li_52, li_51, li_50, li_47, li_46, li_45, li_44, li_43, li_42, li_41, li_39, li_38, li_37, li_36, li_35, li_34, li_33, li_29, li_28, li_27, li_26, li_25, li_23, li_22, li_21, li_19, li_18, li_17, li_15, li_m8, li_m2, li_60, li_54, li_2907, li_151, li_127, oN, iI_add, iI_sub, iI_mul, iI_neg, Int.reduceAdd, Int.reduceSub, Int.reduceMul, Int.reduceNeg, Int.toNat_natCast, iI_lt, iI_le, iI_eq, iI_cl, true_or, or_true, false_or, or_false, true_and, and_true, not_true_eq_false, not_false_eq_true]; first | done | omega)) only [↓if_pos, ↓if_neg, Option.bind_some, Option.toList_some, Option.toList_none, List.cons_append, List.nil_append, l_0, l_1, l_m1, l_2, l_3, l_4, l_5, l_6, l_7, l_8, l_9, l_10, l_16, l_20, l_40, l_48, l_99, l_200, l_999, l_9999, li_73, li_78, li_m1000000, li_90, li_251, li_400, li_2400, li_91, li_153, li_173, li_96, li_32, li_92, li_12, li_93, li_80, li_14, li_1000000000, li_30, li_11, li_24, li_13, li_97, li_64, li_1600, li_49, li_255, li_2147483647, li_12345, li_1103515245, li_59, li_57, li_122, li_1023, li_1000000, li_52, li_51, li_50, li_47, li_46, li_45, li_44, li_43, li_42, li_41, li_39, li_38, li_37, li_36, li_35, li_34, li_33, li_29, li_28, li_27, li_26, li_25, li_23, li_22, li_21, li_19, li_18, li_17, li_15, li_m8, li_m2, li_60, li_54, li_2907, li_151, li_127, oN, iI_add, iI_sub, iI_mul, iI_neg, Int.reduceAdd, Int.reduceSub, Int.reduceMul, Int.reduceNeg, Int.toNat_natCast, iI_cl]
        rw [e2, sg_60_13]
        simp (disch := first | omega | assumption | exact cat_n | exact cat_i _ | exact cat_r _ | (simp (disch := omega) only [l_0, l_1, l_m1, l_2, l_3, l_4, l_5, l_6, l_7, l_8, l_9, l_10, l_16, l_20, l_40, l_48, l_99, l_200, l_999, l_9999, li_73, li_78, li_m1000000, li_90, li_251, li_400, li_2400, li_91, li_153, li_173, li_96, li_32, li_92, li_12, li_93, li_80, li_14, li_1000000000, li_30, li_11, li_24, li_13, li_97, li_64, li_1600, li_49, li_255, li_2147483647, li_12345, li_1103515245, li_59, li_57, li_122, li_1023, li_1000000, li_52, li_51, li_50, li_47, li_46, li_45, li_44, li_43, li_42, li_41, li_39, li_38, li_37, li_36, li_35, li_34, li_33, li_29, li_28, li_27, li_26, li_25, li_23, li_22, li_21, li_19, li_18, li_17, li_15, li_m8, li_m2, li_60, li_54, li_2907, li_151, li_127, oN, iI_add, iI_sub, iI_mul, iI_neg, Int.reduceAdd, Int.reduceSub, Int.reduceMul, Int.reduceNeg, Int.toNat_natCast, iI_lt, iI_le, iI_eq, iI_cl, true_or, or_true, false_or, or_false, true_and, and_true, not_true_eq_false, not_false_eq_true]; first | done | omega)) only [↓if_pos, ↓if_neg, Option.bind_some, Option.toList_some, Option.toList_none, List.cons_append, List.nil_append, l_0, l_1, l_m1, l_2, l_3, l_4, l_5, l_6, l_7, l_8, l_9, l_10, l_16, l_20, l_40, l_48, l_99, l_200, l_999, l_9999, li_73, li_78, li_m1000000, li_90, li_251, li_400, li_2400, li_91, li_153, li_173, li_96, li_32, li_92, li_12, li_93, li_80, li_14, li_1000000000, li_30, li_11, li_24, li_13, li_97, li_64, li_1600, li_49, li_255, li_2147483647, li_12345, li_1103515245, li_59, li_57, li_122, li_1023, li_1000000, li_52, li_51, li_50, li_47, li_46, li_45, li_44, li_43, li_42, li_41, li_39, li_38, li_37, li_36, li_35, li_34, li_33, li_29, li_28, li_27, li_26, li_25, li_23, li_22, li_21, li_19, li_18, li_17, li_15, li_m8, li_m2, li_60, li_54, li_2907, li_151, li_127, oN, iI_add, iI_sub, iI_mul, iI_neg, Int.reduceAdd, Int.reduceSub, Int.reduceMul, Int.reduceNeg, Int.toNat_natCast, iI_cl, CS_n g2, a1]
      all_goals first | assumption | omega | exact cat_n | exact cat_i _ | exact cat_r _ | rfl
    · right
      refine ⟨(I2, fun x => S x ∨ ∃ y, y < kn K ∧ S y ∧ nb K y x, .int (st (fun x => S x ∨ ∃ y, y < kn K ∧ S y ∧ nb K y x) (kn K)), .int (iI (kn K))), ⟨⟨f2, c2⟩, ⟨rfl, rfl⟩, Or.inl s1, hF, ?_⟩, ?_⟩
      · try dsimp only
        rw [st_inj (by omega)] at q
        have hx : ∃ k, k < kn K ∧ ¬ S k ∧ (S k ∨ ∃ y, y < kn K ∧ S y ∧ nb K y k) := by
          apply Classical.byContradiction
          intro z
          apply q
          intro k hk
          refine ⟨fun y => ?_, Or.inl⟩
          apply Classical.byContradiction
          intro y2
          exact z ⟨k, hk, y2, y⟩
        obtain ⟨k, k1, k2, k3⟩ := hx
        have : ci S (kn K) < ci (fun x => S x ∨ ∃ y, y < kn K ∧ S y ∧ nb K y x) (kn K) := by
          have hle := fb_ct_sub (p := fun x => bl (S x) || bl (x = k)) (q := fun x => bl (S x ∨ ∃ y, y < kn K ∧ S y ∧ nb K y x)) (n := kn K) (fun x hx hy => by
            rw [Bool.or_eq_true, bl_iff, bl_iff] at hy
            rw [bl_iff]
            rcases hy with y | y
            · exact Or.inl y
            · rw [y]; exact k3)
          have hor := fb_ct_or (p := fun x => bl (S x)) (q := fun x => bl (x = k)) (n := kn K) (fun x hx hy => by
            rw [bl_iff, bl_iff] at hy
            rw [hy.2] at hy
            exact k2 hy.1)
          have hp : 0 < fb_ct (fun x => bl (x = k)) (kn K) := fb_ct_pos.mpr ⟨k, k1, bl_t rfl⟩
          unfold ci
          try dsimp only
          omega
        rw [cS]
        omega
      · try dsimp only
        rw [cS, sg_60_6]
        · simp (disch := first | omega | assumption | exact cat_n | exact cat_i _ | exact cat_r _ | (simp (disch := omega) only [l_0, l_1, l_m1, l_2, l_3, l_4, l_5, l_6, l_7, l_8, l_9, l_10, l_16, l_20, l_40, l_48, l_99, l_200, l_999, l_9999, li_73, li_78, li_m1000000, li_90, li_251, li_400, li_2400, li_91, li_153, li_173, li_96, li_32, li_92, li_12, li_93, li_80, li_14, li_1000000000, li_30, li_11, li_24, li_13, li_97, li_64, li_1600, li_49, li_255, li_2147483647, li_12345, li_1103515245, li_59, li_57, li_122, li_1023, li_1000000, li_52, li_51, li_50, li_47, li_46, li_45, li_44, li_43, li_42, li_41, li_39, li_38, li_37, li_36, li_35, li_34, li_33, li_29, li_28, li_27, li_26, li_25, li_23, li_22, li_21, li_19, li_18, li_17, li_15, li_m8, li_m2, li_60, li_54, li_2907, li_151, li_127, oN, iI_add, iI_sub, iI_mul, iI_neg, Int.reduceAdd, Int.reduceSub, Int.reduceMul, Int.reduceNeg, Int.toNat_natCast, iI_lt, iI_le, iI_eq, iI_cl, true_or, or_true, false_or, or_false, true_and, and_true, not_true_eq_false, not_false_eq_true]; first | done | omega)) only [↓if_pos, ↓if_neg, Option.bind_some, Option.toList_some, Option.toList_none, List.cons_append, List.nil_append, l_0, l_1, l_m1, l_2, l_3, l_4, l_5, l_6, l_7, l_8, l_9, l_10, l_16, l_20, l_40, l_48, l_99, l_200, l_999, l_9999, li_73, li_78, li_m1000000, li_90, li_251, li_400, li_2400, li_91, li_153, li_173, li_96, li_32, li_92, li_12, li_93, li_80, li_14, li_1000000000, li_30, li_11, li_24, li_13, li_97, li_64, li_1600, li_49, li_255, li_2147483647, li_12345, li_1103515245, li_59, li_57, li_122, li_1023, li_1000000, li_52, li_51, li_50, li_47, li_46, li_45, li_44, li_43, li_42, li_41, li_39, li_38, li_37, li_36, li_35, li_34, li_33, li_29, li_28, li_27, li_26, li_25, li_23, li_22, li_21, li_19, li_18, li_17, li_15, li_m8, li_m2, li_60, li_54, li_2907, li_151, li_127, oN, iI_add, iI_sub, iI_mul, iI_neg, Int.reduceAdd, Int.reduceSub, Int.reduceMul, Int.reduceNeg, Int.toNat_natCast, iI_cl]
          rw [e2, sg_60_13]
          simp (disch := first | omega | assumption | exact cat_n | exact cat_i _ | exact cat_r _ | (simp (disch := omega) only [l_0, l_1, l_m1, l_2, l_3, l_4, l_5, l_6, l_7, l_8, l_9, l_10, l_16, l_20, l_40, l_48, l_99, l_200, l_999, l_9999, li_73, li_78, li_m1000000, li_90, li_251, li_400, li_2400, li_91, li_153, li_173, li_96, li_32, li_92, li_12, li_93, li_80, li_14, li_1000000000, li_30, li_11, li_24, li_13, li_97, li_64, li_1600, li_49, li_255, li_2147483647, li_12345, li_1103515245, li_59, li_57, li_122, li_1023, li_1000000, li_52, li_51, li_50, li_47, li_46, li_45, li_44, li_43, li_42, li_41, li_39, li_38, li_37, li_36, li_35, li_34, li_33, li_29, li_28, li_27, li_26, li_25, li_23, li_22, li_21, li_19, li_18, li_17, li_15, li_m8, li_m2, li_60, li_54, li_2907, li_151, li_127, oN, iI_add, iI_sub, iI_mul, iI_neg, Int.reduceAdd, Int.reduceSub, Int.reduceMul, Int.reduceNeg, Int.toNat_natCast, iI_lt, iI_le, iI_eq, iI_cl, true_or, or_true, false_or, or_false, true_and, and_true, not_true_eq_false, not_false_eq_true]; first | done | omega)) only [↓if_pos, ↓if_neg, Option.bind_some, Option.toList_some, Option.toList_none, List.cons_append, List.nil_append, l_0, l_1, l_m1, l_2, l_3, l_4, l_5, l_6, l_7, l_8, l_9, l_10, l_16, l_20, l_40, l_48, l_99, l_200, l_999, l_9999, li_73, li_78, li_m1000000, li_90, li_251, li_400, li_2400, li_91, li_153, li_173, li_96, li_32, li_92, li_12, li_93, li_80, li_14, li_1000000000, li_30, li_11, li_24, li_13, li_97, li_64, li_1600, li_49, li_255, li_2147483647, li_12345, li_1103515245, li_59, li_57, li_122, li_1023, li_1000000, li_52, li_51, li_50, li_47, li_46, li_45, li_44, li_43, li_42, li_41, li_39, li_38, li_37, li_36, li_35, li_34, li_33, li_29, li_28, li_27, li_26, li_25, li_23, li_22, li_21, li_19, li_18, li_17, li_15, li_m8, li_m2, li_60, li_54, li_2907, li_151, li_127, oN, iI_add, iI_sub, iI_mul, iI_neg, Int.reduceAdd, Int.reduceSub, Int.reduceMul, Int.reduceNeg, Int.toNat_natCast, iI_cl, CS_n g2, q]
        all_goals first | assumption | omega | exact cat_n | exact cat_i _ | exact cat_r _ | rfl) (by
    rintro ⟨I1, S, w, v⟩ ⟨-, -, -, -, s3⟩
    try dsimp only at s3
    have := ci_rg (p := S) (n := kn K)
    omega) (I, fun x => x = b, .null, .null) ⟨⟨Fr_rfl, hC⟩, ⟨rfl, rfl⟩, rfl, fun y hy => by rw [hy]; exact rc_rfl, by
      have := ci_pos (p := fun x => x = b) hb1 rfl
      show ((0 : Nat) : Int) + 1 ≤ ci (fun x => x = b) (kn K)
      omega⟩
  obtain ⟨I', g, e1, e2⟩ := L
  refine ⟨I', g, ?_, e2⟩
  try dsimp only at e1
  rw [← st_one (by omega) hb1, c0] at e1
  simp (disch := first | omega | assumption | exact cat_n | exact cat_i _ | exact cat_r _ | (simp (disch := omega) only [l_0, l_1, l_m1, l_2, l_3, l_4, l_5, l_6, l_7, l_8, l_9, l_10, l_16, l_20, l_40, l_48, l_99, l_200, l_999, l_9999, li_73, li_78, li_m1000000, li_90, li_251, li_400, li_2400, li_91, li_153, li_173, li_96, li_32, li_92, li_12, li_93, li_80, li_14, li_1000000000, li_30, li_11, li_24, li_13, li_97, li_64, li_1600, li_49, li_255, li_2147483647, li_12345, li_1103515245, li_59, li_57, li_122, li_1023, li_1000000, li_52, li_51, li_50, li_47, li_46, li_45, li_44, li_43, li_42, li_41, li_39, li_38, li_37, li_36, li_35, li_34, li_33, li_29, li_28, li_27, li_26, li_25, li_23, li_22, li_21, li_19, li_18, li_17, li_15, li_m8, li_m2, li_60, li_54, li_2907, li_151, li_127, oN, iI_add, iI_sub, iI_mul, iI_neg, Int.reduceAdd, Int.reduceSub, Int.reduceMul, Int.reduceNeg, Int.toNat_natCast, iI_lt, iI_le, iI_eq, iI_cl, true_or, or_true, false_or, or_false, true_and, and_true, not_true_eq_false, not_false_eq_true]; first | done | omega)) only [↓if_pos, ↓if_neg, Option.bind_some, Option.toList_some, Option.toList_none, List.cons_append, List.nil_append, l_0, l_1, l_m1, l_2, l_3, l_4, l_5, l_6, l_7, l_8, l_9, l_10, l_16, l_20, l_40, l_48, l_99, l_200, l_999, l_9999, li_73, li_78, li_m1000000, li_90, li_251, li_400, li_2400, li_91, li_153, li_173, li_96, li_32, li_92, li_12, li_93, li_80, li_14, li_1000000000, li_30, li_11, li_24, li_13, li_97, li_64, li_1600, li_49, li_255, li_2147483647, li_12345, li_1103515245, li_59, li_57, li_122, li_1023, li_1000000, li_52, li_51, li_50, li_47, li_46, li_45, li_44, li_43, li_42, li_41, li_39, li_38, li_37, li_36, li_35, li_34, li_33, li_29, li_28, li_27, li_26, li_25, li_23, li_22, li_21, li_19, li_18, li_17, li_15, li_m8, li_m2, li_60, li_54, li_2907, li_151, li_127, oN, iI_add, iI_sub, iI_mul, iI_neg, Int.reduceAdd, Int.reduceSub, Int.reduceMul, Int.reduceNeg, Int.toNat_natCast, iI_cl, cl_60, sg_60_e0, e1]
end S48
