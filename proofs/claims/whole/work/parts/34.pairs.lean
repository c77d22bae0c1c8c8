/-! PAIRS: closest, near -/
noncomputable def bI (p : Prop) : Int32 := if bl p = true then iI 1 else iI 0
theorem bI_t {p : Prop} (h : p) : bI p = iI 1 := by unfold bI; rw [if_pos (bl_t h)]
theorem bI_f {p : Prop} (h : ¬ p) : bI p = iI 0 := by unfold bI; rw [bl_f h]; rfl
section FG
variable {f g : Nat → Int}
theorem ps_s1 (ok : ps_ok f) (t : Int) : (ps_s f t + 1 < f 2 ∧ ps_s f (t + 1) = ps_s f t + 1) ∨ (f 2 ≤ ps_s f t + 1 ∧ ps_s f (t + 1) = 0) := by
  have hr := ps_s_rg ok t
  have e : ps_s f (t + 1) = (ps_s f t + 1) % f 2 := by
    unfold ps_s
    rw [Int.emod_add_emod]
    congr 1
    omega
  rw [e]
  by_cases q : ps_s f t + 1 < f 2
  · exact Or.inl ⟨q, Int.emod_eq_of_lt (by omega) q⟩
  · refine Or.inr ⟨by omega, ?_⟩
    rw [show ps_s f t + 1 = f 2 by omega, Int.emod_self]
theorem ps_ct_le : ∀ n, ps_ct f g n ≤ n := by
  intro n
  induction n with
  | zero => exact Nat.le_refl _
  | succ n ih =>
    unfold ps_ct
    split
    · exact Nat.le_refl _
    · omega
theorem ps_ct_min : ∀ n t : Nat, t ≤ n → ps_far f g (ps_ct f g n : Nat) ≤ ps_far f g t := by
  intro n
  induction n with
  | zero =>
    intro t ht
    obtain rfl : t = 0 := by omega
    exact Int.le_refl _
  | succ n ih =>
    intro t ht
    unfold ps_ct
    split
    · rename_i q
      by_cases e : t = n + 1
      · subst e; exact Int.le_refl _
      · have := ih t (by omega)
        omega
    · rename_i q
      by_cases e : t = n + 1
      · subst e; omega
      · exact ih t (by omega)
theorem ps_ct_t {n : Nat} (h : ps_far f g ((n : Int) + 1) < ps_far f g (ps_ct f g n : Nat)) : ps_ct f g (n + 1) = n + 1 := by
  rw [← cS] at h
  show (if _ then _ else _) = _
  rw [if_pos h]
theorem ps_ct_f {n : Nat} (h : ¬ ps_far f g ((n : Int) + 1) < ps_far f g (ps_ct f g n : Nat)) : ps_ct f g (n + 1) = ps_ct f g n := by
  rw [← cS] at h
  show (if _ then _ else _) = _
  rw [if_neg h]
theorem ps_cy_pos (okf : ps_ok f) (okg : ps_ok g) : 0 < ps_cy f g ∧ ps_cy f g ≤ 2304 := by
  have hf := okf.2.1
  have hg := okg.2.1
  unfold ps_cy
  refine ⟨Nat.lcm_pos (by omega) (by omega), ?_⟩
  have h1 : Nat.lcm (f 2).toNat (g 2).toNat ∣ (f 2).toNat * (g 2).toNat := Nat.lcm_dvd (Nat.dvd_mul_right _ _) (Nat.dvd_mul_left _ _)
  have h2 := Nat.le_of_dvd (Nat.mul_pos (by omega) (by omega)) h1
  have h3 : (f 2).toNat * (g 2).toNat ≤ 48 * 48 := Nat.mul_le_mul (by omega) (by omega)
  omega
theorem ps_cy_com : ps_cy f g = ps_cy g f := Nat.lcm_comm _ _
theorem ps_ct_com (n : Nat) : ps_ct f g n = ps_ct g f n := by
  induction n with
  | zero => rfl
  | succ n ih =>
    unfold ps_ct
    rw [ih]
    simp only [ps_far_com (f := f) (g := g)]
theorem ps_cl_com : ps_cl f g = ps_cl g f := by
  unfold ps_cl
  rw [ps_ct_com, ps_cy_com]
theorem ps_lf_com : ps_lf f g = ps_lf g f := by
  unfold ps_lf
  rw [ps_cl_com, ps_far_com]
theorem nr_com {e : Int} : nr_ e f g ↔ nr_ e g f := by
  unfold nr_
  rw [ps_cy_com]
  simp only [ps_far_com (f := f) (g := g)]
theorem nr_lf (okf : ps_ok f) (okg : ps_ok g) {e : Int} : nr_ e f g ↔ ps_lf f g ≤ e * e := by
  have hc := (ps_cy_pos okf okg).1
  constructor
  · rintro ⟨t, h1, h2⟩
    have := ps_ct_min (f := f) (g := g) (ps_cy f g - 1) t (by omega)
    unfold ps_lf ps_cl
    omega
  · intro h
    have := ps_ct_le (f := f) (g := g) (ps_cy f g - 1)
    exact ⟨ps_cl f g, by unfold ps_cl; omega, h⟩
theorem nr_off (okf : ps_ok f) (okg : ps_ok g) {e : Int} (h : ps_off e f g) : ¬ nr_ e f g := by
  rintro ⟨t, -, h2⟩
  have := off_far okf okg (ps_s_rg okf t).1 (ps_s_rg okf t).2 (ps_s_rg okg t).1 (ps_s_rg okg t).2 h
  unfold ps_far at h2
  omega
theorem ps_lf_rg (okf : ps_ok f) (okg : ps_ok g) : 0 ≤ ps_lf f g ∧ ps_lf f g ≤ 480000 := ps_far_rg okf okg _
end FG
/-- the place of a pair -/
def pr_ (a b : Nat) : Nat := 10 * min a b + max a b
section S34
variable {X : am_X} {K : Sk} {I : Nat → Nat → Int32} {J : Nat → Nat → Int64} {a b o : Nat}
theorem pr_lt (ha : a < 10) (hb : b < 10) : pr_ a b < 100 := by unfold pr_; omega
theorem pr_com : pr_ a b = pr_ b a := by unfold pr_; omega
theorem pr_inj {c d : Nat} (ha : a < 10) (hb : b < 10) (hcd : c < d) (hd : d < 10) (h : 10 * c + d = pr_ a b) : c = min a b ∧ d = max a b := by
  unfold pr_ at h
  omega
theorem c_51 (ha : a < 10) (hb : b < 10) : am_do X 51 [.int (iI a), .int (iI b)] (am_sh I J) = some (some (.int (iI (pr_ a b))), am_sh I J) := by
  have e : min (a : Int) b * 10 + max (a : Int) b = (pr_ a b : Nat) := by unfold pr_; omega
  simp (disch := first | omega | assumption | exact cat_n | exact cat_i _ | exact cat_r _ | (simp (disch := omega) only [l_0, l_1, l_m1, l_2, l_3, l_4, l_5, l_6, l_7, l_8, l_9, l_10, l_16, l_20, l_40, l_48, l_99, l_200, l_999, l_9999, li_73, li_78, li_m1000000, li_90, li_251, li_400, li_2400, li_91, li_153, li_173, li_96, li_32, li_92, li_12, li_93, li_80, li_14, li_1000000000, li_30, li_11, li_24, li_13, li_97, li_64, li_1600, li_49, li_255, li_2147483647, li_12345, li_1103515245, li_59, li_57, li_122, li_1023, li_1000000, li_52, li_51, li_50, li_47, li_46, li_45, li_44, li_43, li_42, li_41, li_39, li_38, li_37, li_36, li_35, li_34, li_33, li_29, li_28, li_27, li_26, li_25, li_23, li_22, li_21, li_19, li_18, li_17, li_15, li_m8, li_m2, li_60, li_54, li_2907, li_151, li_127, oN, iI_add, iI_sub, iI_mul, iI_neg, Int.reduceAdd, Int.reduceSub, Int.reduceMul, Int.reduceNeg, Int.toNat_natCast, iI_lt, iI_le, iI_eq, iI_cl, true_or, or_true, false_or, or_false, true_and, and_true, not_true_eq_false, not_false_eq_true]; first | done | omega)) only [↓if_pos, ↓if_neg, Option.bind_some, Option.toList_some, Option.toList_none, List.cons_append, List.nil_append, l_0, l_1, l_m1, l_2, l_3, l_4, l_5, l_6, l_7, l_8, l_9, l_10, l_16, l_20, l_40, l_48, l_99, l_200, l_999, l_9999, li_73, li_78, li_m1000000, li_90, li_251, li_400, li_2400, li_91, li_153, li_173, li_96, li_32, li_92, li_12, li_93, li_80, li_14, li_1000000000, li_30, li_11, li_24, li_13, li_97, li_64, li_1600, li_49, li_255, li_2147483647, li_12345, li_1103515245, li_59, li_57, li_122, li_1023, li_1000000, li_52, li_51, li_50, li_47, li_46, li_45, li_44, li_43, li_42, li_41, li_39, li_38, li_37, li_36, li_35, li_34, li_33, li_29, li_28, li_27, li_26, li_25, li_23, li_22, li_21, li_19, li_18, li_17, li_15, li_m8, li_m2, li_60, li_54, li_2907, li_151, li_127, oN, iI_add, iI_sub, iI_mul, iI_neg, Int.reduceAdd, Int.reduceSub, Int.reduceMul, Int.reduceNeg, Int.toNat_natCast, iI_cl, cl_51, sg_51_e0, sg_51_3, sg_51_8, c_353, c_352, e]
theorem k_38t (h : CS K I) (ha : a < kn K) (hb : b < kn K) {e : Int} (e0 : 0 ≤ e) (e1 : e ≤ 99) (hd : ps_off e (kf K a) (kf K b)) : am_do X 38 [.ref (am_bd a), .ref (am_bd b), .int (iI e)] (am_sh I J) = some (some (.int (iI 1)), am_sh I J) := by
  have hn := K_n (CS_k h)
  exact c_38t (by omega) (by omega) (by rw [CS_r h ha]; exact K_f (CS_k h) ha) (by rw [CS_r h hb]; exact K_f (CS_k h) hb) e0 e1 (by rw [CS_r h ha, CS_r h hb]; exact hd)
theorem k_38f (h : CS K I) (ha : a < kn K) (hb : b < kn K) {e : Int} (e0 : 0 ≤ e) (e1 : e ≤ 99) (hd : ¬ ps_off e (kf K a) (kf K b)) : am_do X 38 [.ref (am_bd a), .ref (am_bd b), .int (iI e)] (am_sh I J) = some (some (.int (iI 0)), am_sh I J) := by
  have hn := K_n (CS_k h)
  exact c_38f (by omega) (by omega) (by rw [CS_r h ha]; exact K_f (CS_k h) ha) (by rw [CS_r h hb]; exact K_f (CS_k h) hb) e0 e1 (by rw [CS_r h ha, CS_r h hb]; exact hd)
theorem k_40 (h : CS K I) (ha : a < kn K) (hb : b < kn K) : am_do X 40 [.ref (am_bd a), .ref (am_bd b)] (am_sh I J) = some (some (.int (iI (ps_cy (kf K a) (kf K b)))), am_sh I J) := by
  have hn := K_n (CS_k h)
  have := c_40 (X := X) (J := J) (b := a) (o := b) (I := I) (by omega) (by omega) (by rw [CS_r h ha]; exact K_f (CS_k h) ha) (by rw [CS_r h hb]; exact K_f (CS_k h) hb) (CB_t (CS_B h ha)) (CB_t (CS_B h hb))
  rw [CS_r h ha, CS_r h hb] at this
  exact this
set_option maxHeartbeats 2000000 in
theorem k_55 (h : CS K I) (ha : a < kn K) (hb : b < kn K) {p : Nat} (hp : p < 100) : ∃ I' : Nat → Nat → Int32, am_do X 55 [.ref 83, .int (iI p), .ref (am_bd a), .ref (am_bd b)] (am_sh I J) = some (none, am_sh I' J) ∧ (∀ c k, ¬ ((c = 84 ∨ c = 85) ∧ k = p) → I' c k = I c k) ∧ I' 84 p = iI (ps_lf (kf K a) (kf K b)) ∧ I' 85 p = iI (ps_cl (kf K a) (kf K b)) := by
  have hn := K_n (CS_k h)
  have okf := K_f (CS_k h) ha
  have okg := K_f (CS_k h) hb
  have hf := okf.2.1
  have hg := okg.2.1
  have hcy := ps_cy_pos okf okg
  have L : ∀ (d t : Nat) (I' : Nat → Nat → Int32) (w v : Value) (l : Int), w.category = 1 → v.category = 1 → t + d = ps_cy (kf K a) (kf K b) → (∀ c k, ¬ (c = 85 ∧ k = p) → I' c k = I c k) → (t = 0 ∧ l = 1000000 ∨ ∃ r, t = r + 1 ∧ l = ps_far (kf K a) (kf K b) (ps_ct (kf K a) (kf K b) r : Nat) ∧ I' 85 p = iI (ps_ct (kf K a) (kf K b) r : Nat)) → ∃ I'' : Nat → Nat → Int32, am_ev X amP_55 22 [.ref 83, .int (iI p), .ref (am_bd a), .ref (am_bd b), .int (iI (ps_cy (kf K a) (kf K b))), .int (iI (kf K a 2)), .int (iI (kf K b 2)), .int (iI (ps_s (kf K a) t)), .int (iI (ps_s (kf K b) t)), .int (iI l), .int (iI t), w, v] [] (am_sh I' J) = some (none, am_sh I'' J) ∧ (∀ c k, ¬ ((c = 84 ∨ c = 85) ∧ k = p) → I'' c k = I c k) ∧ I'' 84 p = iI (ps_lf (kf K a) (kf K b)) ∧ I'' 85 p = iI (ps_cl (kf K a) (kf K b)) := by
    intro d
    induction d with
    | zero =>
      intro t I' w v l hw hv ht hI hl
      rcases hl with ⟨h1, -⟩ | ⟨r, h1, h2, h3⟩
      · omega
      · obtain rfl : t = ps_cy (kf K a) (kf K b) := by omega
        have er : r = ps_cy (kf K a) (kf K b) - 1 := by omega
        subst er
        refine ⟨am_up I' 84 p (iI l), ?_, ?_, ?_, ?_⟩
        · rw [sg_55_22]
          · simp (disch := first | omega | assumption | exact cat_n | exact cat_i _ | exact cat_r _ | (simp (disch := omega) only [l_0, l_1, l_m1, l_2, l_3, l_4, l_5, l_6, l_7, l_8, l_9, l_10, l_16, l_20, l_40, l_48, l_99, l_200, l_999, l_9999, li_73, li_78, li_m1000000, li_90, li_251, li_400, li_2400, li_91, li_153, li_173, li_96, li_32, li_92, li_12, li_93, li_80, li_14, li_1000000000, li_30, li_11, li_24, li_13, li_97, li_64, li_1600, li_49, li_255, li_2147483647, li_12345, li_1103515245, li_59, li_57, li_122, li_1023, li_1000000, li_52, li_51, li_50, li_47, li_46, li_45, li_44, li_43, li_42, li_41, li_39, li_38, li_37, li_36, li_35, li_34, li_33, li_29, li_28, li_27, li_26, li_25, li_23, li_22, li_21, li_19, li_18, li_17, li_15, li_m8, li_m2, li_60, li_54, li_2907, li_151, li_127, oN, iI_add, iI_sub, iI_mul, iI_neg, Int.reduceAdd, Int.reduceSub, Int.reduceMul, Int.reduceNeg, Int.toNat_natCast, iI_lt, iI_le, iI_eq, iI_cl, true_or, or_true, false_or, or_false, true_and, and_true, not_true_eq_false, not_false_eq_true]; first | done | omega)) only [↓if_pos, ↓if_neg, Option.bind_some, Option.toList_some, Option.toList_none, List.cons_append, List.nil_append, l_0, l_1, l_m1, l_2, l_3, l_4, l_5, l_6, l_7, l_8, l_9, l_10, l_16, l_20, l_40, l_48, l_99, l_200, l_999, l_9999, li_73, li_78, li_m1000000, li_90, li_251, li_400, li_2400, li_91, li_153, li_173, li_96, li_32, li_92, li_12, li_93, li_80, li_14, li_1000000000, li_30, li_11, li_24, li_13, li_97, li_64, li_1600, li_49, li_255, li_2147483647, li_12345, li_1103515245, li_59, li_57, li_122, li_1023, li_1000000, li_52, li_51, li_50, li_47, li_46, li_45, li_44, li_43, li_42, li_41, li_39, li_38, li_37, li_36, li_35, li_34, li_33, li_29, li_28, li_27, li_26, li_25, li_23, li_22, li_21, li_19, li_18, li_17, li_15, li_m8, li_m2, li_60, li_54, li_2907, li_151, li_127, oN, iI_add, iI_sub, iI_mul, iI_neg, Int.reduceAdd, Int.reduceSub, Int.reduceMul, Int.reduceNeg, Int.toNat_natCast, iI_cl]
          all_goals first | assumption | omega | exact cat_n | exact cat_i _ | exact cat_r _ | rfl
        · intro c k hck
          rw [up_ck (by omega)]
          exact hI c k (by omega)
        · rw [up_at, h2]
          rfl
        · rw [up_ck (by omega), h3]
          rfl
    | succ d ih =>
      intro t I' w v l hw hv ht hI hl
      have hS : CS K I' := CS_fr h (fun c k q => hI c k (fun z => by rw [z.1] at q; cases q))
      have s1 := K_s (CS_k h) ha t
      have s2 := K_s (CS_k h) hb t
      have r1 := ps_rg okf s1.1 s1.2
      have r2 := ps_rg okg s2.1 s2.2
      have D := ps_far_rg okf okg t
      have l1 : 0 ≤ l ∧ l ≤ 1000000 := by
        rcases hl with ⟨h1, h2⟩ | ⟨r, h1, h2, h3⟩
        · omega
        · have := ps_far_rg okf okg (ps_ct (kf K a) (kf K b) r : Nat)
          omega
      have eD : ps_d (kf K a) (kf K b) (ps_s (kf K a) t) (ps_s (kf K b) t) = ps_far (kf K a) (kf K b) t := rfl
      have x1 : (ps_x (kf K a) (ps_s (kf K a) t) - ps_x (kf K b) (ps_s (kf K b) t)) * (ps_x (kf K a) (ps_s (kf K a) t) - ps_x (kf K b) (ps_s (kf K b) t)) ≤ ps_far (kf K a) (kf K b) t := by
        have y0 := sq_nn (ps_y (kf K a) (ps_s (kf K a) t) - ps_y (kf K b) (ps_s (kf K b) t))
        have z0 := sq_nn (ps_z (kf K a) (ps_s (kf K a) t) - ps_z (kf K b) (ps_s (kf K b) t))
        unfold ps_far ps_d sq_
        omega
      have x0 := sq_nn (ps_x (kf K a) (ps_s (kf K a) t) - ps_x (kf K b) (ps_s (kf K b) t))
      by_cases q : ps_far (kf K a) (kf K b) t < l
      · have ih1 := fun w v hw hv => ih (t + 1) (am_up I' 85 p (iI t)) w v (ps_far (kf K a) (kf K b) t) hw hv (by omega) (fun c k hck => by rw [up_ck (by omega)]; exact hI c k hck) (Or.inr ⟨t, rfl, by
          rcases hl with ⟨h1, h2⟩ | ⟨r, h1, h2, h3⟩
          · subst h1; rfl
          · subst h1
            rw [h2, cS] at q
            rw [ps_ct_t q], by
          rw [up_at]
          rcases hl with ⟨h1, h2⟩ | ⟨r, h1, h2, h3⟩
          · subst h1; rfl
          · subst h1
            rw [h2, cS] at q
            rw [ps_ct_t q]⟩)
        rw [cS] at ih1
        have ih2 := ih1 (.int (iI (ps_x (kf K a) (ps_s (kf K a) t) - ps_x (kf K b) (ps_s (kf K b) t)))) (.int (iI (ps_far (kf K a) (kf K b) t))) rfl rfl
        obtain ⟨I'', e1, e2⟩ := ih2
        refine ⟨I'', ?_, e2⟩
        rw [← e1, sg_55_22]
        · rcases ps_s1 okf t with ⟨p1, p2⟩ | ⟨p1, p2⟩ <;> rcases ps_s1 okg t with ⟨p3, p4⟩ | ⟨p3, p4⟩ <;> rw [p2, p4] <;> simp (disch := first | omega | assumption | exact cat_n | exact cat_i _ | exact cat_r _ | (simp (disch := omega) only [l_0, l_1, l_m1, l_2, l_3, l_4, l_5, l_6, l_7, l_8, l_9, l_10, l_16, l_20, l_40, l_48, l_99, l_200, l_999, l_9999, li_73, li_78, li_m1000000, li_90, li_251, li_400, li_2400, li_91, li_153, li_173, li_96, li_32, li_92, li_12, li_93, li_80, li_14, li_1000000000, li_30, li_11, li_24, li_13, li_97, li_64, li_1600, li_49, li_255, li_2147483647, li_12345, li_1103515245, li_59, li_57, li_122, li_1023, li_1000000, li_52, li_51, li_50, li_47, li_46, li_45, li_44, li_43, li_42, li_41, li_39, li_38, li_37, li_36, li_35, li_34, li_33, li_29, li_28, li_27, li_26, li_25, li_23, li_22, li_21, li_19, li_18, li_17, li_15, li_m8, li_m2, li_60, li_54, li_2907, li_151, li_127, oN, iI_add, iI_sub, iI_mul, iI_neg, Int.reduceAdd, Int.reduceSub, Int.reduceMul, Int.reduceNeg, Int.toNat_natCast, iI_lt, iI_le, iI_eq, iI_cl, true_or, or_true, false_or, or_false, true_and, and_true, not_true_eq_false, not_false_eq_true]; first | done | omega)) only [↓if_pos, ↓if_neg, Option.bind_some, Option.toList_some, Option.toList_none, List.cons_append, List.nil_append, l_0, l_1, l_m1, l_2, l_3, l_4, l_5, l_6, l_7, l_8, l_9, l_10, l_16, l_20, l_40, l_48, l_99, l_200, l_999, l_9999, li_73, li_78, li_m1000000, li_90, li_251, li_400, li_2400, li_91, li_153, li_173, li_96, li_32, li_92, li_12, li_93, li_80, li_14, li_1000000000, li_30, li_11, li_24, li_13, li_97, li_64, li_1600, li_49, li_255, li_2147483647, li_12345, li_1103515245, li_59, li_57, li_122, li_1023, li_1000000, li_52, li_51, li_50, li_47, li_46, li_45, li_44, li_43, li_42, li_41, li_39, li_38, li_37, li_36, li_35, li_34, li_33, li_29, li_28, li_27, li_26, li_25, li_23, li_22, li_21, li_19, li_18, li_17, li_15, li_m8, li_m2, li_60, li_54, li_2907, li_151, li_127, oN, iI_add, iI_sub, iI_mul, iI_neg, Int.reduceAdd, Int.reduceSub, Int.reduceMul, Int.reduceNeg, Int.toNat_natCast, iI_cl, sg_55_45, k_35 hS, CS_x hS, eD]
        all_goals first | assumption | omega | exact cat_n | exact cat_i _ | exact cat_r _ | rfl
      · have ih1 := fun w v hw hv => ih (t + 1) I' w v l hw hv (by omega) hI (by
          rcases hl with ⟨h1, h2⟩ | ⟨r, h1, h2, h3⟩
          · omega
          · subst h1
            rw [h2, cS] at q
            exact Or.inr ⟨r + 1, rfl, by rw [ps_ct_f q]; exact h2, by rw [ps_ct_f q]; exact h3⟩)
        rw [cS] at ih1
        by_cases q2 : l ≤ (ps_x (kf K a) (ps_s (kf K a) t) - ps_x (kf K b) (ps_s (kf K b) t)) * (ps_x (kf K a) (ps_s (kf K a) t) - ps_x (kf K b) (ps_s (kf K b) t))
        · have ih2 := ih1 (.int (iI (ps_x (kf K a) (ps_s (kf K a) t) - ps_x (kf K b) (ps_s (kf K b) t)))) (.int (iI l)) rfl rfl
          obtain ⟨I'', e1, e2⟩ := ih2
          refine ⟨I'', ?_, e2⟩
          rw [← e1, sg_55_22]
          · rcases ps_s1 okf t with ⟨p1, p2⟩ | ⟨p1, p2⟩ <;> rcases ps_s1 okg t with ⟨p3, p4⟩ | ⟨p3, p4⟩ <;> rw [p2, p4] <;> simp (disch := first | omega | assumption | exact cat_n | exact cat_i _ | exact cat_r _ | (simp (disch := omega) only [l_0, l_1, l_m1, l_2, l_3, l_4, l_5, l_6, l_7, l_8, l_9, l_10, l_16, l_20, l_40, l_48, l_99, l_200, l_999, l_9999, li_73, li_78, li_m1000000, li_90, li_251, li_400, li_2400, li_91, li_153, li_173, li_96, li_32, li_92, li_12, li_93, li_80, li_14, li_1000000000, li_30, li_11, li_24, li_13, li_97, li_64, li_1600, li_49, li_255, li_2147483647, li_12345, li_1103515245, li_59, li_57, li_122, li_1023, li_1000000, li_52, li_51, li_50, li_47, li_46, li_45, li_44, li_43, li_42, li_41, li_39, li_38, li_37, li_36, li_35, li_34, li_33, li_29, li_28, li_27, li_26, li_25, li_23, li_22, li_21, li_19, li_18, li_17, li_15, li_m8, li_m2, li_60, li_54, li_2907, li_151, li_127, oN, iI_add, iI_sub, iI_mul, iI_neg, Int.reduceAdd, Int.reduceSub, Int.reduceMul, Int.reduceNeg, Int.toNat_natCast, iI_lt, iI_le, iI_eq, iI_cl, true_or, or_true, false_or, or_false, true_and, and_true, not_true_eq_false, not_false_eq_true]; first | done | omega)) only [↓if_pos, ↓if_neg, Option.bind_some, Option.toList_some, Option.toList_none, List.cons_append, List.nil_append, l_0, l_1, l_m1, l_2, l_3, l_4, l_5, l_6, l_7, l_8, l_9, l_10, l_16, l_20, l_40, l_48, l_99, l_200, l_999, l_9999, li_73, li_78, li_m1000000, li_90, li_251, li_400, li_2400, li_91, li_153, li_173, li_96, li_32, li_92, li_12, li_93, li_80, li_14, li_1000000000, li_30, li_11, li_24, li_13, li_97, li_64, li_1600, li_49, li_255, li_2147483647, li_12345, li_1103515245, li_59, li_57, li_122, li_1023, li_1000000, li_52, li_51, li_50, li_47, li_46, li_45, li_44, li_43, li_42, li_41, li_39, li_38, li_37, li_36, li_35, li_34, li_33, li_29, li_28, li_27, li_26, li_25, li_23, li_22, li_21, li_19, li_18, li_17, li_15, li_m8, li_m2, li_60, li_54, li_2907, li_151, li_127, oN, iI_add, iI_sub, iI_mul, iI_neg, Int.reduceAdd, Int.reduceSub, Int.reduceMul, Int.reduceNeg, Int.toNat_natCast, iI_cl, sg_55_45, k_35 hS, CS_x hS, eD]
          all_goals first | assumption | omega | exact cat_n | exact cat_i _ | exact cat_r _ | rfl
        · have ih2 := ih1 (.int (iI (ps_x (kf K a) (ps_s (kf K a) t) - ps_x (kf K b) (ps_s (kf K b) t)))) (.int (iI (ps_far (kf K a) (kf K b) t))) rfl rfl
          obtain ⟨I'', e1, e2⟩ := ih2
          refine ⟨I'', ?_, e2⟩
          rw [← e1, sg_55_22]
          · rcases ps_s1 okf t with ⟨p1, p2⟩ | ⟨p1, p2⟩ <;> rcases ps_s1 okg t with ⟨p3, p4⟩ | ⟨p3, p4⟩ <;> rw [p2, p4] <;> simp (disch := first | omega | assumption | exact cat_n | exact cat_i _ | exact cat_r _ | (simp (disch := omega) only [l_0, l_1, l_m1, l_2, l_3, l_4, l_5, l_6, l_7, l_8, l_9, l_10, l_16, l_20, l_40, l_48, l_99, l_200, l_999, l_9999, li_73, li_78, li_m1000000, li_90, li_251, li_400, li_2400, li_91, li_153, li_173, li_96, li_32, li_92, li_12, li_93, li_80, li_14, li_1000000000, li_30, li_11, li_24, li_13, li_97, li_64, li_1600, li_49, li_255, li_2147483647, li_12345, li_1103515245, li_59, li_57, li_122, li_1023, li_1000000, li_52, li_51, li_50, li_47, li_46, li_45, li_44, li_43, li_42, li_41, li_39, li_38, li_37, li_36, li_35, li_34, li_33, li_29, li_28, li_27, li_26, li_25, li_23, li_22, li_21, li_19, li_18, li_17, li_15, li_m8, li_m2, li_60, li_54, li_2907, li_151, li_127, oN, iI_add, iI_sub, iI_mul, iI_neg, Int.reduceAdd, Int.reduceSub, Int.reduceMul, Int.reduceNeg, Int.toNat_natCast, iI_lt, iI_le, iI_eq, iI_cl, true_or, or_true, false_or, or_false, true_and, and_true, not_true_eq_false, not_false_eq_true]; first | done | omega)) only [↓if_pos, ↓if_neg, Option.bind_some, Option.toList_some, Option.toList_none, List.cons_append, List.nil_append, l_0, l_1, l_m1, l_2, l_3, l_4, l_5, l_6, l_7, l_8, l_9, l_10, l_16, l_20, l_40, l_48, l_99, l_200, l_999, l_9999, li_73, li_78, li_m1000000, li_90, li_251, li_400, li_2400, li_91, li_153, li_173, li_96, li_32, li_92, li_12, li_93, li_80, li_14, li_1000000000, li_30, li_11, li_24, li_13, li_97, li_64, li_1600, li_49, li_255, li_2147483647, li_12345, li_1103515245, li_59, li_57, li_122, li_1023, li_1000000, li_52, li_51, li_50, li_47, li_46, li_45, li_44, li_43, li_42, li_41, li_39, li_38, li_37, li_36, li_35, li_34, li_33, li_29, li_28, li_27, li_26, li_25, li_23, li_22, li_21, li_19, li_18, li_17, li_15, li_m8, li_m2, li_60, li_54, li_2907, li_151, li_127, oN, iI_add, iI_sub, iI_mul, iI_neg, Int.reduceAdd, Int.reduceSub, Int.reduceMul, Int.reduceNeg, Int.toNat_natCast, iI_cl, sg_55_45, k_35 hS, CS_x hS, eD]
          all_goals first | assumption | omega | exact cat_n | exact cat_i _ | exact cat_r _ | rfl
  obtain ⟨I', e1, e2, e3, e4⟩ := L (ps_cy (kf K a) (kf K b)) 0 I .null .null 1000000 rfl rfl (by omega) (fun _ _ _ => rfl) (Or.inl ⟨rfl, rfl⟩)
  refine ⟨I', ?_, e2, e3, e4⟩
  rw [c0] at e1
  simp (disch := first | omega | assumption | exact cat_n | exact cat_i _ | exact cat_r _ | (simp (disch := omega) only [l_0, l_1, l_m1, l_2, l_3, l_4, l_5, l_6, l_7, l_8, l_9, l_10, l_16, l_20, l_40, l_48, l_99, l_200, l_999, l_9999, li_73, li_78, li_m1000000, li_90, li_251, li_400, li_2400, li_91, li_153, li_173, li_96, li_32, li_92, li_12, li_93, li_80, li_14, li_1000000000, li_30, li_11, li_24, li_13, li_97, li_64, li_1600, li_49, li_255, li_2147483647, li_12345, li_1103515245, li_59, li_57, li_122, li_1023, li_1000000, li_52, li_51, li_50, li_47, li_46, li_45, li_44, li_43, li_42, li_41, li_39, li_38, li_37, li_36, li_35, li_34, li_33, li_29, li_28, li_27, li_26, li_25, li_23, li_22, li_21, li_19, li_18, li_17, li_15, li_m8, li_m2, li_60, li_54, li_2907, li_151, li_127, oN, iI_add, iI_sub, iI_mul, iI_neg, Int.reduceAdd, Int.reduceSub, Int.reduceMul, Int.reduceNeg, Int.toNat_natCast, iI_lt, iI_le, iI_eq, iI_cl, true_or, or_true, false_or, or_false, true_and, and_true, not_true_eq_false, not_false_eq_true]; first | done | omega)) only [↓if_pos, ↓if_neg, Option.bind_some, Option.toList_some, Option.toList_none, List.cons_append, List.nil_append, l_0, l_1, l_m1, l_2, l_3, l_4, l_5, l_6, l_7, l_8, l_9, l_10, l_16, l_20, l_40, l_48, l_99, l_200, l_999, l_9999, li_73, li_78, li_m1000000, li_90, li_251, li_400, li_2400, li_91, li_153, li_173, li_96, li_32, li_92, li_12, li_93, li_80, li_14, li_1000000000, li_30, li_11, li_24, li_13, li_97, li_64, li_1600, li_49, li_255, li_2147483647, li_12345, li_1103515245, li_59, li_57, li_122, li_1023, li_1000000, li_52, li_51, li_50, li_47, li_46, li_45, li_44, li_43, li_42, li_41, li_39, li_38, li_37, li_36, li_35, li_34, li_33, li_29, li_28, li_27, li_26, li_25, li_23, li_22, li_21, li_19, li_18, li_17, li_15, li_m8, li_m2, li_60, li_54, li_2907, li_151, li_127, oN, iI_add, iI_sub, iI_mul, iI_neg, Int.reduceAdd, Int.reduceSub, Int.reduceMul, Int.reduceNeg, Int.toNat_natCast, iI_cl, cl_55, sg_55_e0, sg_55_3, sg_55_13, sg_55_17, k_40 h, k_30 h, CS_tn h, e1]
/-- how FAR two are when CLOSEST; it is kept -/
theorem k_52 (h : CS K I) (hC : rl_C I) (ha : a < kn K) (hb : b < kn K) (hab : a ≠ b) : ∃ I' : Nat → Nat → Int32, am_do X 52 [.ref 83, .int (iI a), .int (iI b)] (am_sh I J) = some (some (.int (iI (ps_lf (kf K a) (kf K b)))), am_sh I' J) ∧ Fr W_q I I' ∧ rl_C I' ∧ I' 84 (pr_ a b) = iI (ps_lf (kf K a) (kf K b)) ∧ I' 85 (pr_ a b) = iI (ps_cl (kf K a) (kf K b)) := by
  have hn := K_n (CS_k h)
  have hlf := ps_lf_rg (K_f (CS_k h) ha) (K_f (CS_k h) hb)
  have hp := pr_lt (a := a) (b := b) (by omega) (by omega)
  have hm : ∀ c d, c < d → d < kn K → 10 * c + d = pr_ a b → ps_lf (kf K c) (kf K d) = ps_lf (kf K a) (kf K b) ∧ ps_cl (kf K c) (kf K d) = ps_cl (kf K a) (kf K b) := by
    intro c d hcd hd e
    obtain ⟨e1, e2⟩ := pr_inj (by omega) (by omega) hcd (by omega) e
    rcases Nat.lt_or_ge a b with q | q
    · rw [Nat.min_eq_left (by omega)] at e1
      rw [Nat.max_eq_right (by omega)] at e2
      rw [e1, e2]
      exact ⟨rfl, rfl⟩
    · rw [Nat.min_eq_right (by omega)] at e1
      rw [Nat.max_eq_left (by omega)] at e2
      rw [e1, e2]
      exact ⟨ps_lf_com, ps_cl_com⟩
  have hg := (C_iff h).mp hC
  have hpr : pr_ a b = 10 * min a b + max a b := rfl
  rcases hg.1 (min a b) (max a b) (by omega) (by omega) with q | ⟨q1, q2⟩
  · rw [← hpr] at q
    obtain ⟨I', e1, e2, e3, e4⟩ := k_55 (X := X) (J := J) h ha hb hp
    have hF : Fr W_q I I' := fun c k w => e2 c k (fun z => by
      rcases z with ⟨z | z, -⟩
      · rw [z] at w; cases w
      · rw [z] at w; cases w)
    refine ⟨I', ?_, hF, ?_, e3, e4⟩
    · simp (disch := first | omega | assumption | exact cat_n | exact cat_i _ | exact cat_r _ | (simp (disch := omega) only [l_0, l_1, l_m1, l_2, l_3, l_4, l_5, l_6, l_7, l_8, l_9, l_10, l_16, l_20, l_40, l_48, l_99, l_200, l_999, l_9999, li_73, li_78, li_m1000000, li_90, li_251, li_400, li_2400, li_91, li_153, li_173, li_96, li_32, li_92, li_12, li_93, li_80, li_14, li_1000000000, li_30, li_11, li_24, li_13, li_97, li_64, li_1600, li_49, li_255, li_2147483647, li_12345, li_1103515245, li_59, li_57, li_122, li_1023, li_1000000, li_52, li_51, li_50, li_47, li_46, li_45, li_44, li_43, li_42, li_41, li_39, li_38, li_37, li_36, li_35, li_34, li_33, li_29, li_28, li_27, li_26, li_25, li_23, li_22, li_21, li_19, li_18, li_17, li_15, li_m8, li_m2, li_60, li_54, li_2907, li_151, li_127, oN, iI_add, iI_sub, iI_mul, iI_neg, Int.reduceAdd, Int.reduceSub, Int.reduceMul, Int.reduceNeg, Int.toNat_natCast, iI_lt, iI_le, iI_eq, iI_cl, true_or, or_true, false_or, or_false, true_and, and_true, not_true_eq_false, not_false_eq_true]; first | done | omega)) only [↓if_pos, ↓if_neg, Option.bind_some, Option.toList_some, Option.toList_none, List.cons_append, List.nil_append, l_0, l_1, l_m1, l_2, l_3, l_4, l_5, l_6, l_7, l_8, l_9, l_10, l_16, l_20, l_40, l_48, l_99, l_200, l_999, l_9999, li_73, li_78, li_m1000000, li_90, li_251, li_400, li_2400, li_91, li_153, li_173, li_96, li_32, li_92, li_12, li_93, li_80, li_14, li_1000000000, li_30, li_11, li_24, li_13, li_97, li_64, li_1600, li_49, li_255, li_2147483647, li_12345, li_1103515245, li_59, li_57, li_122, li_1023, li_1000000, li_52, li_51, li_50, li_47, li_46, li_45, li_44, li_43, li_42, li_41, li_39, li_38, li_37, li_36, li_35, li_34, li_33, li_29, li_28, li_27, li_26, li_25, li_23, li_22, li_21, li_19, li_18, li_17, li_15, li_m8, li_m2, li_60, li_54, li_2907, li_151, li_127, oN, iI_add, iI_sub, iI_mul, iI_neg, Int.reduceAdd, Int.reduceSub, Int.reduceMul, Int.reduceNeg, Int.toNat_natCast, iI_cl, cl_52, sg_52_e0, sg_52_3, sg_52_23, c_51, q, e1, e3]
    · rw [C_iff (CS_fr h hF)]
      refine ⟨fun c d hcd hd => ?_, fun c d hcd hd => ?_, fun k hk => ?_⟩
      · by_cases e : 10 * c + d = pr_ a b
        · rw [e, (hm c d hcd hd e).1, (hm c d hcd hd e).2]
          exact Or.inr ⟨e3, e4⟩
        · rw [e2 84 _ (by omega), e2 85 _ (by omega)]
          exact hg.1 c d hcd hd
      · rw [e2 80 _ (by omega)]
        exact hg.2.1 c d hcd hd
      · rw [e2 104 _ (by omega)]
        exact hg.2.2 k hk
  · rw [← hpr] at q1 q2
    rw [(hm (min a b) (max a b) (by omega) (by omega) rfl).1] at q1
    rw [(hm (min a b) (max a b) (by omega) (by omega) rfl).2] at q2
    refine ⟨I, ?_, Fr_rfl, hC, q1, q2⟩
    simp (disch := first | omega | assumption | exact cat_n | exact cat_i _ | exact cat_r _ | (simp (disch := omega) only [l_0, l_1, l_m1, l_2, l_3, l_4, l_5, l_6, l_7, l_8, l_9, l_10, l_16, l_20, l_40, l_48, l_99, l_200, l_999, l_9999, li_73, li_78, li_m1000000, li_90, li_251, li_400, li_2400, li_91, li_153, li_173, li_96, li_32, li_92, li_12, li_93, li_80, li_14, li_1000000000, li_30, li_11, li_24, li_13, li_97, li_64, li_1600, li_49, li_255, li_2147483647, li_12345, li_1103515245, li_59, li_57, li_122, li_1023, li_1000000, li_52, li_51, li_50, li_47, li_46, li_45, li_44, li_43, li_42, li_41, li_39, li_38, li_37, li_36, li_35, li_34, li_33, li_29, li_28, li_27, li_26, li_25, li_23, li_22, li_21, li_19, li_18, li_17, li_15, li_m8, li_m2, li_60, li_54, li_2907, li_151, li_127, oN, iI_add, iI_sub, iI_mul, iI_neg, Int.reduceAdd, Int.reduceSub, Int.reduceMul, Int.reduceNeg, Int.toNat_natCast, iI_lt, iI_le, iI_eq, iI_cl, true_or, or_true, false_or, or_false, true_and, and_true, not_true_eq_false, not_false_eq_true]; first | done | omega)) only [↓if_pos, ↓if_neg, Option.bind_some, Option.toList_some, Option.toList_none, List.cons_append, List.nil_append, l_0, l_1, l_m1, l_2, l_3, l_4, l_5, l_6, l_7, l_8, l_9, l_10, l_16, l_20, l_40, l_48, l_99, l_200, l_999, l_9999, li_73, li_78, li_m1000000, li_90, li_251, li_400, li_2400, li_91, li_153, li_173, li_96, li_32, li_92, li_12, li_93, li_80, li_14, li_1000000000, li_30, li_11, li_24, li_13, li_97, li_64, li_1600, li_49, li_255, li_2147483647, li_12345, li_1103515245, li_59, li_57, li_122, li_1023, li_1000000, li_52, li_51, li_50, li_47, li_46, li_45, li_44, li_43, li_42, li_41, li_39, li_38, li_37, li_36, li_35, li_34, li_33, li_29, li_28, li_27, li_26, li_25, li_23, li_22, li_21, li_19, li_18, li_17, li_15, li_m8, li_m2, li_60, li_54, li_2907, li_151, li_127, oN, iI_add, iI_sub, iI_mul, iI_neg, Int.reduceAdd, Int.reduceSub, Int.reduceMul, Int.reduceNeg, Int.toNat_natCast, iI_cl, cl_52, sg_52_e0, sg_52_3, sg_52_23, c_51, q1]
theorem k_57 (h : CS K I) (hC : rl_C I) (ha : a < kn K) (hb : b < kn K) (hab : a ≠ b) : ∃ I' : Nat → Nat → Int32, am_do X 57 [.ref 83, .int (iI a), .int (iI b)] (am_sh I J) = some (some (.int (bI (nr_ (ke K) (kf K a) (kf K b)))), am_sh I' J) ∧ Fr W_q I I' ∧ rl_C I' := by
  have hn := K_n (CS_k h)
  have he := K_e (CS_k h)
  have okf := K_f (CS_k h) ha
  have okg := K_f (CS_k h) hb
  by_cases q : ps_off (ke K) (kf K a) (kf K b)
  · refine ⟨I, ?_, Fr_rfl, hC⟩
    rw [bI_f (nr_off okf okg q)]
    simp (disch := first | omega | assumption | exact cat_n | exact cat_i _ | exact cat_r _ | (simp (disch := omega) only [l_0, l_1, l_m1, l_2, l_3, l_4, l_5, l_6, l_7, l_8, l_9, l_10, l_16, l_20, l_40, l_48, l_99, l_200, l_999, l_9999, li_73, li_78, li_m1000000, li_90, li_251, li_400, li_2400, li_91, li_153, li_173, li_96, li_32, li_92, li_12, li_93, li_80, li_14, li_1000000000, li_30, li_11, li_24, li_13, li_97, li_64, li_1600, li_49, li_255, li_2147483647, li_12345, li_1103515245, li_59, li_57, li_122, li_1023, li_1000000, li_52, li_51, li_50, li_47, li_46, li_45, li_44, li_43, li_42, li_41, li_39, li_38, li_37, li_36, li_35, li_34, li_33, li_29, li_28, li_27, li_26, li_25, li_23, li_22, li_21, li_19, li_18, li_17, li_15, li_m8, li_m2, li_60, li_54, li_2907, li_151, li_127, oN, iI_add, iI_sub, iI_mul, iI_neg, Int.reduceAdd, Int.reduceSub, Int.reduceMul, Int.reduceNeg, Int.toNat_natCast, iI_lt, iI_le, iI_eq, iI_cl, true_or, or_true, false_or, or_false, true_and, and_true, not_true_eq_false, not_false_eq_true]; first | done | omega)) only [↓if_pos, ↓if_neg, Option.bind_some, Option.toList_some, Option.toList_none, List.cons_append, List.nil_append, l_0, l_1, l_m1, l_2, l_3, l_4, l_5, l_6, l_7, l_8, l_9, l_10, l_16, l_20, l_40, l_48, l_99, l_200, l_999, l_9999, li_73, li_78, li_m1000000, li_90, li_251, li_400, li_2400, li_91, li_153, li_173, li_96, li_32, li_92, li_12, li_93, li_80, li_14, li_1000000000, li_30, li_11, li_24, li_13, li_97, li_64, li_1600, li_49, li_255, li_2147483647, li_12345, li_1103515245, li_59, li_57, li_122, li_1023, li_1000000, li_52, li_51, li_50, li_47, li_46, li_45, li_44, li_43, li_42, li_41, li_39, li_38, li_37, li_36, li_35, li_34, li_33, li_29, li_28, li_27, li_26, li_25, li_23, li_22, li_21, li_19, li_18, li_17, li_15, li_m8, li_m2, li_60, li_54, li_2907, li_151, li_127, oN, iI_add, iI_sub, iI_mul, iI_neg, Int.reduceAdd, Int.reduceSub, Int.reduceMul, Int.reduceNeg, Int.toNat_natCast, iI_cl, cl_57, sg_57_e0, sg_57_14, sg_57_19, CS_e h, k_38t h ha hb he.1 he.2 q]
  · obtain ⟨I', e1, e2, e3, -, -⟩ := k_52 (X := X) (J := J) h hC ha hb hab
    have r := ps_lf_rg okf okg
    have r4 := sq_nn (ke K)
    have r5 := sq_rg (a := ke K) (by omega)
    refine ⟨I', ?_, e2, e3⟩
    by_cases q2 : nr_ (ke K) (kf K a) (kf K b)
    · rw [bI_t q2]
      rw [nr_lf okf okg] at q2
      simp (disch := first | omega | assumption | exact cat_n | exact cat_i _ | exact cat_r _ | (simp (disch := omega) only [l_0, l_1, l_m1, l_2, l_3, l_4, l_5, l_6, l_7, l_8, l_9, l_10, l_16, l_20, l_40, l_48, l_99, l_200, l_999, l_9999, li_73, li_78, li_m1000000, li_90, li_251, li_400, li_2400, li_91, li_153, li_173, li_96, li_32, li_92, li_12, li_93, li_80, li_14, li_1000000000, li_30, li_11, li_24, li_13, li_97, li_64, li_1600, li_49, li_255, li_2147483647, li_12345, li_1103515245, li_59, li_57, li_122, li_1023, li_1000000, li_52, li_51, li_50, li_47, li_46, li_45, li_44, li_43, li_42, li_41, li_39, li_38, li_37, li_36, li_35, li_34, li_33, li_29, li_28, li_27, li_26, li_25, li_23, li_22, li_21, li_19, li_18, li_17, li_15, li_m8, li_m2, li_60, li_54, li_2907, li_151, li_127, oN, iI_add, iI_sub, iI_mul, iI_neg, Int.reduceAdd, Int.reduceSub, Int.reduceMul, Int.reduceNeg, Int.toNat_natCast, iI_lt, iI_le, iI_eq, iI_cl, true_or, or_true, false_or, or_false, true_and, and_true, not_true_eq_false, not_false_eq_true]; first | done | omega)) only [↓if_pos, ↓if_neg, Option.bind_some, Option.toList_some, Option.toList_none, List.cons_append, List.nil_append, l_0, l_1, l_m1, l_2, l_3, l_4, l_5, l_6, l_7, l_8, l_9, l_10, l_16, l_20, l_40, l_48, l_99, l_200, l_999, l_9999, li_73, li_78, li_m1000000, li_90, li_251, li_400, li_2400, li_91, li_153, li_173, li_96, li_32, li_92, li_12, li_93, li_80, li_14, li_1000000000, li_30, li_11, li_24, li_13, li_97, li_64, li_1600, li_49, li_255, li_2147483647, li_12345, li_1103515245, li_59, li_57, li_122, li_1023, li_1000000, li_52, li_51, li_50, li_47, li_46, li_45, li_44, li_43, li_42, li_41, li_39, li_38, li_37, li_36, li_35, li_34, li_33, li_29, li_28, li_27, li_26, li_25, li_23, li_22, li_21, li_19, li_18, li_17, li_15, li_m8, li_m2, li_60, li_54, li_2907, li_151, li_127, oN, iI_add, iI_sub, iI_mul, iI_neg, Int.reduceAdd, Int.reduceSub, Int.reduceMul, Int.reduceNeg, Int.toNat_natCast, iI_cl, cl_57, sg_57_e0, sg_57_14, sg_57_19, CS_e h, k_38f h ha hb he.1 he.2 q, e1, CS_e (CS_fr h e2)]
    · rw [bI_f q2]
      rw [nr_lf okf okg] at q2
      simp (disch := first | omega | assumption | exact cat_n | exact cat_i _ | exact cat_r _ | (simp (disch := omega) only [l_0, l_1, l_m1, l_2, l_3, l_4, l_5, l_6, l_7, l_8, l_9, l_10, l_16, l_20, l_40, l_48, l_99, l_200, l_999, l_9999, li_73, li_78, li_m1000000, li_90, li_251, li_400, li_2400, li_91, li_153, li_173, li_96, li_32, li_92, li_12, li_93, li_80, li_14, li_1000000000, li_30, li_11, li_24, li_13, li_97, li_64, li_1600, li_49, li_255, li_2147483647, li_12345, li_1103515245, li_59, li_57, li_122, li_1023, li_1000000, li_52, li_51, li_50, li_47, li_46, li_45, li_44, li_43, li_42, li_41, li_39, li_38, li_37, li_36, li_35, li_34, li_33, li_29, li_28, li_27, li_26, li_25, li_23, li_22, li_21, li_19, li_18, li_17, li_15, li_m8, li_m2, li_60, li_54, li_2907, li_151, li_127, oN, iI_add, iI_sub, iI_mul, iI_neg, Int.reduceAdd, Int.reduceSub, Int.reduceMul, Int.reduceNeg, Int.toNat_natCast, iI_lt, iI_le, iI_eq, iI_cl, true_or, or_true, false_or, or_false, true_and, and_true, not_true_eq_false, not_false_eq_true]; first | done | omega)) only [↓if_pos, ↓if_neg, Option.bind_some, Option.toList_some, Option.toList_none, List.cons_append, List.nil_append, l_0, l_1, l_m1, l_2, l_3, l_4, l_5, l_6, l_7, l_8, l_9, l_10, l_16, l_20, l_40, l_48, l_99, l_200, l_999, l_9999, li_73, li_78, li_m1000000, li_90, li_251, li_400, li_2400, li_91, li_153, li_173, li_96, li_32, li_92, li_12, li_93, li_80, li_14, li_1000000000, li_30, li_11, li_24, li_13, li_97, li_64, li_1600, li_49, li_255, li_2147483647, li_12345, li_1103515245, li_59, li_57, li_122, li_1023, li_1000000, li_52, li_51, li_50, li_47, li_46, li_45, li_44, li_43, li_42, li_41, li_39, li_38, li_37, li_36, li_35, li_34, li_33, li_29, li_28, li_27, li_26, li_25, li_23, li_22, li_21, li_19, li_18, li_17, li_15, li_m8, li_m2, li_60, li_54, li_2907, li_151, li_127, oN, iI_add, iI_sub, iI_mul, iI_neg, Int.reduceAdd, Int.reduceSub, Int.reduceMul, Int.reduceNeg, Int.toNat_natCast, iI_cl, cl_57, sg_57_e0, sg_57_14, sg_57_19, CS_e h, k_38f h ha hb he.1 he.2 q, e1, CS_e (CS_fr h e2)]
/-- NEAR -/
def nk (K : Sk) (a b : Nat) : Prop := ku K a ∧ ku K b ∧ nr_ (ke K) (kf K a) (kf K b)
theorem k_56 (h : CS K I) (hC : rl_C I) (ha : a < kn K) (hb : b < kn K) (hab : a ≠ b) : ∃ I' : Nat → Nat → Int32, am_do X 56 [.ref 83, .int (iI a), .int (iI b)] (am_sh I J) = some (some (.int (bI (nk K a b))), am_sh I' J) ∧ Fr W_q I I' ∧ rl_C I' := by
  by_cases q1 : ku K a
  · by_cases q2 : ku K b
    · obtain ⟨I', e1, e2, e3⟩ := k_57 (X := X) (J := J) h hC ha hb hab
      refine ⟨I', ?_, e2, e3⟩
      by_cases q3 : nr_ (ke K) (kf K a) (kf K b)
      · rw [bI_t ⟨q1, q2, q3⟩]
        rw [bI_t q3] at e1
        simp (disch := first | omega | assumption | exact cat_n | exact cat_i _ | exact cat_r _ | (simp (disch := omega) only [l_0, l_1, l_m1, l_2, l_3, l_4, l_5, l_6, l_7, l_8, l_9, l_10, l_16, l_20, l_40, l_48, l_99, l_200, l_999, l_9999, li_73, li_78, li_m1000000, li_90, li_251, li_400, li_2400, li_91, li_153, li_173, li_96, li_32, li_92, li_12, li_93, li_80, li_14, li_1000000000, li_30, li_11, li_24, li_13, li_97, li_64, li_1600, li_49, li_255, li_2147483647, li_12345, li_1103515245, li_59, li_57, li_122, li_1023, li_1000000, li_52, li_51, li_50, li_47, li_46, li_45, li_44, li_43, li_42, li_41, li_39, li_38, li_37, li_36, li_35, li_34, li_33, li_29, li_28, li_27, li_26, li_25, li_23, li_22, li_21, li_19, li_18, li_17, li_15, li_m8, li_m2, li_60, li_54, li_2907, li_151, li_127, oN, iI_add, iI_sub, iI_mul, iI_neg, Int.reduceAdd, Int.reduceSub, Int.reduceMul, Int.reduceNeg, Int.toNat_natCast, iI_lt, iI_le, iI_eq, iI_cl, true_or, or_true, false_or, or_false, true_and, and_true, not_true_eq_false, not_false_eq_true]; first | done | omega)) only [↓if_pos, ↓if_neg, Option.bind_some, Option.toList_some, Option.toList_none, List.cons_append, List.nil_append, l_0, l_1, l_m1, l_2, l_3, l_4, l_5, l_6, l_7, l_8, l_9, l_10, l_16, l_20, l_40, l_48, l_99, l_200, l_999, l_9999, li_73, li_78, li_m1000000, li_90, li_251, li_400, li_2400, li_91, li_153, li_173, li_96, li_32, li_92, li_12, li_93, li_80, li_14, li_1000000000, li_30, li_11, li_24, li_13, li_97, li_64, li_1600, li_49, li_255, li_2147483647, li_12345, li_1103515245, li_59, li_57, li_122, li_1023, li_1000000, li_52, li_51, li_50, li_47, li_46, li_45, li_44, li_43, li_42, li_41, li_39, li_38, li_37, li_36, li_35, li_34, li_33, li_29, li_28, li_27, li_26, li_25, li_23, li_22, li_21, li_19, li_18, li_17, li_15, li_m8, li_m2, li_60, li_54, li_2907, li_151, li_127, oN, iI_add, iI_sub, iI_mul, iI_neg, Int.reduceAdd, Int.reduceSub, Int.reduceMul, Int.reduceNeg, Int.toNat_natCast, iI_cl, cl_56, sg_56_e0, sg_56_4, sg_56_9, sg_56_14, k_101t h q1, k_101t h q2, e1]
      · rw [bI_f (fun z => q3 z.2.2)]
        rw [bI_f q3] at e1
        simp (disch := first | omega | assumption | exact cat_n | exact cat_i _ | exact cat_r _ | (simp (disch := omega) only [l_0, l_1, l_m1, l_2, l_3, l_4, l_5, l_6, l_7, l_8, l_9, l_10, l_16, l_20, l_40, l_48, l_99, l_200, l_999, l_9999, li_73, li_78, li_m1000000, li_90, li_251, li_400, li_2400, li_91, li_153, li_173, li_96, li_32, li_92, li_12, li_93, li_80, li_14, li_1000000000, li_30, li_11, li_24, li_13, li_97, li_64, li_1600, li_49, li_255, li_2147483647, li_12345, li_1103515245, li_59, li_57, li_122, li_1023, li_1000000, li_52, li_51, li_50, li_47, li_46, li_45, li_44, li_43, li_42, li_41, li_39, li_38, li_37, li_36, li_35, li_34, li_33, li_29, li_28, li_27, li_26, li_25, li_23, li_22, li_21, li_19, li_18, li_17, li_15, li_m8, li_m2, li_60, li_54, li_2907, li_151, li_127, oN, iI_add, iI_sub, iI_mul, iI_neg, Int.reduceAdd, Int.reduceSub, Int.reduceMul, Int.reduceNeg, Int.toNat_natCast, iI_lt, iI_le, iI_eq, iI_cl, true_or, or_true, false_or, or_false, true_and, and_true, not_true_eq_false, not_false_eq_true]; first | done | omega)) only [↓if_pos, ↓if_neg, Option.bind_some, Option.toList_some, Option.toList_none, List.cons_append, List.nil_append, l_0, l_1, l_m1, l_2, l_3, l_4, l_5, l_6, l_7, l_8, l_9, l_10, l_16, l_20, l_40, l_48, l_99, l_200, l_999, l_9999, li_73, li_78, li_m1000000, li_90, li_251, li_400, li_2400, li_91, li_153, li_173, li_96, li_32, li_92, li_12, li_93, li_80, li_14, li_1000000000, li_30, li_11, li_24, li_13, li_97, li_64, li_1600, li_49, li_255, li_2147483647, li_12345, li_1103515245, li_59, li_57, li_122, li_1023, li_1000000, li_52, li_51, li_50, li_47, li_46, li_45, li_44, li_43, li_42, li_41, li_39, li_38, li_37, li_36, li_35, li_34, li_33, li_29, li_28, li_27, li_26, li_25, li_23, li_22, li_21, li_19, li_18, li_17, li_15, li_m8, li_m2, li_60, li_54, li_2907, li_151, li_127, oN, iI_add, iI_sub, iI_mul, iI_neg, Int.reduceAdd, Int.reduceSub, Int.reduceMul, Int.reduceNeg, Int.toNat_natCast, iI_cl, cl_56, sg_56_e0, sg_56_4, sg_56_9, sg_56_14, k_101t h q1, k_101t h q2, e1]
    · refine ⟨I, ?_, Fr_rfl, hC⟩
      rw [bI_f (fun z => q2 z.2.1)]
      simp (disch := first | omega | assumption | exact cat_n | exact cat_i _ | exact cat_r _ | (simp (disch := omega) only [l_0, l_1, l_m1, l_2, l_3, l_4, l_5, l_6, l_7, l_8, l_9, l_10, l_16, l_20, l_40, l_48, l_99, l_200, l_999, l_9999, li_73, li_78, li_m1000000, li_90, li_251, li_400, li_2400, li_91, li_153, li_173, li_96, li_32, li_92, li_12, li_93, li_80, li_14, li_1000000000, li_30, li_11, li_24, li_13, li_97, li_64, li_1600, li_49, li_255, li_2147483647, li_12345, li_1103515245, li_59, li_57, li_122, li_1023, li_1000000, li_52, li_51, li_50, li_47, li_46, li_45, li_44, li_43, li_42, li_41, li_39, li_38, li_37, li_36, li_35, li_34, li_33, li_29, li_28, li_27, li_26, li_25, li_23, li_22, li_21, li_19, li_18, li_17, li_15, li_m8, li_m2, li_60, li_54, li_2907, li_151, li_127, oN, iI_add, iI_sub, iI_mul, iI_neg, Int.reduceAdd, Int.reduceSub, Int.reduceMul, Int.reduceNeg, Int.toNat_natCast, iI_lt, iI_le, iI_eq, iI_cl, true_or, or_true, false_or, or_false, true_and, and_true, not_true_eq_false, not_false_eq_true]; first | done | omega)) only [↓if_pos, ↓if_neg, Option.bind_some, Option.toList_some, Option.toList_none, List.cons_append, List.nil_append, l_0, l_1, l_m1, l_2, l_3, l_4, l_5, l_6, l_7, l_8, l_9, l_10, l_16, l_20, l_40, l_48, l_99, l_200, l_999, l_9999, li_73, li_78, li_m1000000, li_90, li_251, li_400, li_2400, li_91, li_153, li_173, li_96, li_32, li_92, li_12, li_93, li_80, li_14, li_1000000000, li_30, li_11, li_24, li_13, li_97, li_64, li_1600, li_49, li_255, li_2147483647, li_12345, li_1103515245, li_59, li_57, li_122, li_1023, li_1000000, li_52, li_51, li_50, li_47, li_46, li_45, li_44, li_43, li_42, li_41, li_39, li_38, li_37, li_36, li_35, li_34, li_33, li_29, li_28, li_27, li_26, li_25, li_23, li_22, li_21, li_19, li_18, li_17, li_15, li_m8, li_m2, li_60, li_54, li_2907, li_151, li_127, oN, iI_add, iI_sub, iI_mul, iI_neg, Int.reduceAdd, Int.reduceSub, Int.reduceMul, Int.reduceNeg, Int.toNat_natCast, iI_cl, cl_56, sg_56_e0, sg_56_4, sg_56_9, sg_56_14, k_101t h q1, k_101d h hb q2]
  · refine ⟨I, ?_, Fr_rfl, hC⟩
    rw [bI_f (fun z => q1 z.1)]
    simp (disch := first | omega | assumption | exact cat_n | exact cat_i _ | exact cat_r _ | (simp (disch := omega) only [l_0, l_1, l_m1, l_2, l_3, l_4, l_5, l_6, l_7, l_8, l_9, l_10, l_16, l_20, l_40, l_48, l_99, l_200, l_999, l_9999, li_73, li_78, li_m1000000, li_90, li_251, li_400, li_2400, li_91, li_153, li_173, li_96, li_32, li_92, li_12, li_93, li_80, li_14, li_1000000000, li_30, li_11, li_24, li_13, li_97, li_64, li_1600, li_49, li_255, li_2147483647, li_12345, li_1103515245, li_59, li_57, li_122, li_1023, li_1000000, li_52, li_51, li_50, li_47, li_46, li_45, li_44, li_43, li_42, li_41, li_39, li_38, li_37, li_36, li_35, li_34, li_33, li_29, li_28, li_27, li_26, li_25, li_23, li_22, li_21, li_19, li_18, li_17, li_15, li_m8, li_m2, li_60, li_54, li_2907, li_151, li_127, oN, iI_add, iI_sub, iI_mul, iI_neg, Int.reduceAdd, Int.reduceSub, Int.reduceMul, Int.reduceNeg, Int.toNat_natCast, iI_lt, iI_le, iI_eq, iI_cl, true_or, or_true, false_or, or_false, true_and, and_true, not_true_eq_false, not_false_eq_true]; first | done | omega)) only [↓if_pos, ↓if_neg, Option.bind_some, Option.toList_some, Option.toList_none, List.cons_append, List.nil_append, l_0, l_1, l_m1, l_2, l_3, l_4, l_5, l_6, l_7, l_8, l_9, l_10, l_16, l_20, l_40, l_48, l_99, l_200, l_999, l_9999, li_73, li_78, li_m1000000, li_90, li_251, li_400, li_2400, li_91, li_153, li_173, li_96, li_32, li_92, li_12, li_93, li_80, li_14, li_1000000000, li_30, li_11, li_24, li_13, li_97, li_64, li_1600, li_49, li_255, li_2147483647, li_12345, li_1103515245, li_59, li_57, li_122, li_1023, li_1000000, li_52, li_51, li_50, li_47, li_46, li_45, li_44, li_43, li_42, li_41, li_39, li_38, li_37, li_36, li_35, li_34, li_33, li_29, li_28, li_27, li_26, li_25, li_23, li_22, li_21, li_19, li_18, li_17, li_15, li_m8, li_m2, li_60, li_54, li_2907, li_151, li_127, oN, iI_add, iI_sub, iI_mul, iI_neg, Int.reduceAdd, Int.reduceSub, Int.reduceMul, Int.reduceNeg, Int.toNat_natCast, iI_cl, cl_56, sg_56_e0, sg_56_4, sg_56_9, sg_56_14, k_101d h ha q1]
end S34
