/-! CHANCES of the class -/
/-- near by an offset j of the phases: 1, else 0 -/
noncomputable def hf_ (K : Sk) (a b : Nat) (j : Int) : Int := if bl (OF (ke K) (kf K a) (kf K b) ((kf K a 3 - kf K b 3 + j) % (gc (kf K a) (kf K b) : Int))) = true then 1 else 0
/-- rows, as the class counts them, up to some; as the model does -/
noncomputable def rwc (K : Sk) (a b : Nat) (e : Nat) (n : Nat) : Int := fb_si (fun i => (2 * (e : Int) + 1 - ((((i : Int) - 2 * e).natAbs : Nat) : Int)) * hf_ K a b ((i : Int) - 2 * e)) n
noncomputable def rwm (K : Sk) (a b : Nat) (e : Nat) : Int := fb_si (fun i => fb_si (fun k => hf_ K a b ((i : Int) - (k : Int))) (2 * e + 1)) (2 * e + 1)
section RW
variable {K : Sk} {a b : Nat}
theorem rw_same {h : Int → Int} : ∀ e : Nat, e ≤ 5 → fb_si (fun i => (2 * (e : Int) + 1 - ((((i : Int) - 2 * e).natAbs : Nat) : Int)) * h ((i : Int) - 2 * e)) (4 * e + 1) = fb_si (fun i => fb_si (fun k => h ((i : Int) - (k : Int))) (2 * e + 1)) (2 * e + 1) := by
  intro e he
  rcases (by omega : e = 0 ∨ e = 1 ∨ e = 2 ∨ e = 3 ∨ e = 4 ∨ e = 5) with rfl | rfl | rfl | rfl | rfl | rfl
  · simp [fb_si]
  · simp [fb_si]; omega
  · simp [fb_si]; omega
  · simp [fb_si]; omega
  · simp [fb_si]; omega
  · simp [fb_si]; omega
theorem hf_rg {j : Int} : 0 ≤ hf_ K a b j ∧ hf_ K a b j ≤ 1 := by
  unfold hf_
  split
  · omega
  · omega
theorem rwc_rg {e : Nat} (he : e ≤ 5) : ∀ n, n ≤ 4 * e + 1 → 0 ≤ rwc K a b e n ∧ rwc K a b e n ≤ 11 * n := by
  intro n
  induction n with
  | zero => intro _; exact ⟨Int.le_refl _, Int.le_refl _⟩
  | succ n ih =>
    intro hn
    have := ih (by omega)
    have h := hf_rg (K := K) (a := a) (b := b) (j := (n : Int) - 2 * e)
    unfold rwc at this ⊢
    rw [fb_si_succ]
    rcases (by omega : hf_ K a b ((n : Int) - 2 * e) = 0 ∨ hf_ K a b ((n : Int) - 2 * e) = 1) with q | q
    · rw [q, Int.mul_zero]; omega
    · rw [q, Int.mul_one]; omega
end RW
section S57
variable {X : am_X} {K : Sk} {I : Nat → Nat → Int32} {J : Nat → Nat → Int64} {a b o : Nat}
theorem k_39 (h : CS K I) (ha : a < kn K) (hb : b < kn K) : am_do X 39 [.ref (am_bd a), .ref (am_bd b)] (am_sh I J) = some (some (.int (iI (gc (kf K a) (kf K b)))), am_sh I J) := by
  have hn := K_n (CS_k h)
  have := c_39 (X := X) (J := J) (b := a) (o := b) (I := I) (by omega) (by omega) (by rw [CS_r h ha]; exact K_f (CS_k h) ha) (by rw [CS_r h hb]; exact K_f (CS_k h) hb) (CB_t (CS_B h ha)) (CB_t (CS_B h hb))
  rw [CS_r h ha, CS_r h hb] at this
  exact this
theorem k_36 (h : CS K I) (ha : a < kn K) (hb : b < kn K) {e s u : Int} (e0 : 0 ≤ e) (e1 : e ≤ 99) (h0 : 0 ≤ s) (h1 : s < kf K a 2) (h2 : 0 ≤ u) (h3 : u < kf K b 2) : am_do X 36 [.ref (am_bd a), .int (iI e), .int (iI s), .ref (am_bd b), .int (iI u)] (am_sh I J) = some (some (.int (bI (ps_d (kf K a) (kf K b) s u ≤ e * e))), am_sh I J) := by
  have hn := K_n (CS_k h)
  by_cases q : ps_d (kf K a) (kf K b) s u ≤ e * e
  · rw [bI_t q]
    exact c_36t (by omega) (by omega) (CS_B h ha) (CS_B h hb) e0 e1 h0 (by rw [CS_r h ha]; exact h1) h2 (by rw [CS_r h hb]; exact h3) (by rw [CS_r h ha, CS_r h hb]; exact q)
  · rw [bI_f q]
    exact c_36f (by omega) (by omega) (CS_B h ha) (CS_B h hb) e0 e1 h0 (by rw [CS_r h ha]; exact h1) h2 (by rw [CS_r h hb]; exact h3) (by rw [CS_r h ha, CS_r h hb]; exact Int.not_le.mp q)
theorem em1 {G : Nat} (hG : 0 < G) (x : Int) : (0 < x % G ∧ (x - 1) % G = x % G - 1) ∨ (x % G = 0 ∧ (x - 1) % (G : Int) = G - 1) := by
  have h1 := Int.emod_nonneg x (show (G : Int) ≠ 0 by omega)
  have h2 := Int.emod_lt_of_pos x (show 0 < (G : Int) by omega)
  have e : (x - 1) % (G : Int) = (x % G - 1) % G := by
    rw [Int.sub_emod x 1 G, Int.sub_emod (x % G) 1 G, Int.emod_emod]
  by_cases q : 0 < x % (G : Int)
  · left
    refine ⟨q, ?_⟩
    rw [e]
    exact Int.emod_eq_of_lt (by omega) (by omega)
  · right
    have q0 : x % (G : Int) = 0 := by omega
    refine ⟨q0, ?_⟩
    rw [e, q0, show (0 : Int) - 1 = (G - 1) + (-1) * G by omega, Int.add_mul_emod_self_right]
    exact Int.emod_eq_of_lt (by omega) (by omega)
/-- offsets that have been found near: steps ahead of s, and of s those ahead of u -/
def OFp (K : Sk) (a b s0 u0 : Nat) (k : Int) : Prop := ∃ s u : Nat, (s < s0 ∨ (s = s0 ∧ u < u0)) ∧ s < kT K a ∧ u < kT K b ∧ ((s : Int) - u) % (gc (kf K a) (kf K b) : Int) = k ∧ ps_d (kf K a) (kf K b) s u ≤ ke K * ke K
theorem k_70 (h : CS K I) (ha : a < kn K) (hb : b < kn K) : ∃ I' : Nat → Nat → Int32, am_do X 70 [.ref 83, .ref (am_bd a), .ref (am_bd b)] (am_sh I J) = some (some (.int (iI (gc (kf K a) (kf K b)))), am_sh I' J) ∧ (∀ c k, c ≠ 86 → I' c k = I c k) ∧ ∀ k : Nat, k < gc (kf K a) (kf K b) → I' 86 k = bI (OF (ke K) (kf K a) (kf K b) k) := by
  have hn := K_n (CS_k h)
  have he := K_e (CS_k h)
  obtain ⟨eA, A1, A2⟩ := K_T (CS_k h) ha
  obtain ⟨eB, B1, B2⟩ := K_T (CS_k h) hb
  have gp := gc_pos (g := kf K b) (K_f (CS_k h) ha)
  have hF : ∀ I1 : Nat → Nat → Int32, (∀ c k, c ≠ 86 → I1 c k = I c k) → CS K I1 := fun I1 f => CS_fr h (fun c k q => f c k (fun z => by rw [z] at q; cases q))
  have hgc := k_39 (X := X) (J := J) h ha hb
  generalize hG : gc (kf K a) (kf K b) = G at *
  -- all false first
  have A := Lp1 (n := 48) (G := fun k (I1 : Nat → Nat → Int32) => am_ev X amP_70 6 [.ref 83, .ref (am_bd a), .ref (am_bd b), .int (iI G), .int (iI k), .null, .null] [] (am_sh I1 J)) (Iv := fun k I1 => (∀ c j, c ≠ 86 → I1 c j = I c j) ∧ ∀ j, j < k → I1 86 j = iI 0) (P := fun r => ∃ I1 : Nat → Nat → Int32, r = am_ev X amP_70 18 [.ref 83, .ref (am_bd a), .ref (am_bd b), .int (iI G), .int (iI 0), .null, .null] [] (am_sh I1 J) ∧ (∀ c j, c ≠ 86 → I1 c j = I c j) ∧ ∀ j, j < 48 → I1 86 j = iI 0) (by
    rintro k I1 hk ⟨f1, v1⟩
    right
    refine ⟨am_up I1 86 k (iI 0), ⟨fun c j hc => by rw [up_c hc]; exact f1 c j hc, fun j hj => ?_⟩, ?_⟩
    · by_cases e : j = k
      · subst e; exact up_at _ _ _ _
      · rw [up_k e]; exact v1 j (by omega)
    · try dsimp only
      rw [cS, sg_70_6]
      · simp (disch := first | omega | assumption | exact cat_n | exact cat_i _ | exact cat_r _ | (simp (disch := omega) only [l_0, l_1, l_m1, l_2, l_3, l_4, l_5, l_6, l_7, l_8, l_9, l_10, l_16, l_20, l_40, l_48, l_99, l_200, l_999, l_9999, li_73, li_78, li_m1000000, li_90, li_251, li_400, li_2400, li_91, li_153, li_173, li_96, li_32, li_92, li_12, li_93, li_80, li_14, li_1000000000, li_30, li_11, li_24, li_13, li_97, li_64, li_1600, li_49, li_255, li_2147483647, li_12345, li_1103515245, li_59, li_57, li_122, li_1023, li_1000000, li_52, li_51, li_50, li_47, li_46, li_45, li_44, li_43, li_42, li_41, li_39, li_38, li_37, li_36, li_35, li_34, li_33, li_29, li_28, li_27, li_26, li_25, li_23, li_22, li_21, li_19, li_18, li_17, li_15, li_m8, li_m2, li_60, li_54, li_2907, li_151, li_127, oN, iI_add, iI_sub, iI_mul, iI_neg, Int.reduceAdd, Int.reduceSub, Int.reduceMul, Int.reduceNeg, Int.toNat_natCast, iI_lt, iI_le, iI_eq, iI_cl, true_or, or_true, false_or, or_false, true_and, and_true, not_true_eq_false, not_false_eq_true]; first | done | omega)) only [↓if_pos, ↓if_neg, Option.bind_some, Option.toList_some, Option.toList_none, List.cons_append, List.nil_append, l_0, l_1, l_m1, l_2, l_3, l_4, l_5, l_6, l_7, l_8, l_9, l_10, l_16, l_20, l_40, l_48, l_99, l_200, l_999, l_9999, li_73, li_78, li_m1000000, li_90, li_251, li_400, li_2400, li_91, li_153, li_173, li_96, li_32, li_92, li_12, li_93, li_80, li_14, li_1000000000, li_30, li_11, li_24, li_13, li_97, li_64, li_1600, li_49, li_255, li_2147483647, li_12345, li_1103515245, li_59, li_57, li_122, li_1023, li_1000000, li_52, li_51, li_50, li_47, li_46, li_45, li_44, li_43, li_42, li_41, li_39, li_38, li_37, li_36, li_35, li_34, li_33, li_29, li_28, li_27, li_26, li_25, li_23, li_22, li_21, li_19, li_18, li_17, li_15, li_m8, li_m2, li_60, li_54, li_2907, li_151, li_127, oN, iI_add, iI_sub, iI_mul, iI_neg, Int.reduceAdd, Int.reduceSub, Int.reduceMul, Int.reduceNeg, Int.toNat_natCast, iI_cl]
      all_goals first | assumption | omega | exact cat_n | exact cat_i _ | exact cat_r _ | rfl) (by
    rintro I1 ⟨f1, v1⟩
    refine ⟨I1, ?_, f1, v1⟩
    try dsimp only
    rw [sg_70_6]
    · simp (disch := first | omega | assumption | exact cat_n | exact cat_i _ | exact cat_r _ | (simp (disch := omega) only [l_0, l_1, l_m1, l_2, l_3, l_4, l_5, l_6, l_7, l_8, l_9, l_10, l_16, l_20, l_40, l_48, l_99, l_200, l_999, l_9999, li_73, li_78, li_m1000000, li_90, li_251, li_400, li_2400, li_91, li_153, li_173, li_96, li_32, li_92, li_12, li_93, li_80, li_14, li_1000000000, li_30, li_11, li_24, li_13, li_97, li_64, li_1600, li_49, li_255, li_2147483647, li_12345, li_1103515245, li_59, li_57, li_122, li_1023, li_1000000, li_52, li_51, li_50, li_47, li_46, li_45, li_44, li_43, li_42, li_41, li_39, li_38, li_37, li_36, li_35, li_34, li_33, li_29, li_28, li_27, li_26, li_25, li_23, li_22, li_21, li_19, li_18, li_17, li_15, li_m8, li_m2, li_60, li_54, li_2907, li_151, li_127, oN, iI_add, iI_sub, iI_mul, iI_neg, Int.reduceAdd, Int.reduceSub, Int.reduceMul, Int.reduceNeg, Int.toNat_natCast, iI_lt, iI_le, iI_eq, iI_cl, true_or, or_true, false_or, or_false, true_and, and_true, not_true_eq_false, not_false_eq_true]; first | done | omega)) only [↓if_pos, ↓if_neg, Option.bind_some, Option.toList_some, Option.toList_none, List.cons_append, List.nil_append, l_0, l_1, l_m1, l_2, l_3, l_4, l_5, l_6, l_7, l_8, l_9, l_10, l_16, l_20, l_40, l_48, l_99, l_200, l_999, l_9999, li_73, li_78, li_m1000000, li_90, li_251, li_400, li_2400, li_91, li_153, li_173, li_96, li_32, li_92, li_12, li_93, li_80, li_14, li_1000000000, li_30, li_11, li_24, li_13, li_97, li_64, li_1600, li_49, li_255, li_2147483647, li_12345, li_1103515245, li_59, li_57, li_122, li_1023, li_1000000, li_52, li_51, li_50, li_47, li_46, li_45, li_44, li_43, li_42, li_41, li_39, li_38, li_37, li_36, li_35, li_34, li_33, li_29, li_28, li_27, li_26, li_25, li_23, li_22, li_21, li_19, li_18, li_17, li_15, li_m8, li_m2, li_60, li_54, li_2907, li_151, li_127, oN, iI_add, iI_sub, iI_mul, iI_neg, Int.reduceAdd, Int.reduceSub, Int.reduceMul, Int.reduceNeg, Int.toNat_natCast, iI_cl]
    all_goals first | assumption | omega | exact cat_n | exact cat_i _ | exact cat_r _ | rfl) I ⟨fun _ _ _ => rfl, fun j hj => by omega⟩
  obtain ⟨I1, a1, f1, v1⟩ := A
  try dsimp only at a1
  rw [c0] at a1
  have B := Lp1 (n := kT K a) (G := fun s (w : (Nat → Nat → Int32) × Value × Value) => am_ev X amP_70 18 [.ref 83, .ref (am_bd a), .ref (am_bd b), .int (iI G), .int (iI s), w.2.1, w.2.2] [] (am_sh w.1 J)) (Iv := fun s w => (∀ c j, c ≠ 86 → w.1 c j = I c j) ∧ (∀ j : Nat, j < G → w.1 86 j = bI (OFp K a b s 0 j)) ∧ w.2.1.category = 1 ∧ w.2.2.category = 1) (P := fun r => ∃ I' : Nat → Nat → Int32, r = some (some (.int (iI G)), am_sh I' J) ∧ (∀ c j, c ≠ 86 → I' c j = I c j) ∧ ∀ j : Nat, j < G → I' 86 j = bI (OFp K a b (kT K a) 0 j)) (by
    rintro s ⟨I2, w5, w6⟩ hs ⟨f2, v2, k5, k6⟩
    right
    try dsimp only at f2 v2 k5 k6
    have g2 := hF I2 f2
    have et := CS_tn g2 ha
    rw [eA] at et
    have hmod : (s : Int) % (G : Int) = ((s : Int) - ((0 : Nat) : Int)) % (G : Int) := by congr 1
    have C := Lp1 (n := kT K b) (G := fun u (w : Nat → Nat → Int32) => am_ev X amP_70 28 [.ref 83, .ref (am_bd a), .ref (am_bd b), .int (iI G), .int (iI s), .int (iI (((s : Int) - u) % (G : Int))), .int (iI u)] [] (am_sh w J)) (Iv := fun u w => (∀ c j, c ≠ 86 → w c j = I c j) ∧ ∀ j : Nat, j < G → w 86 j = bI (OFp K a b s u j)) (P := fun r => ∃ I3 : Nat → Nat → Int32, r = am_ev X amP_70 18 [.ref 83, .ref (am_bd a), .ref (am_bd b), .int (iI G), .int (iI ((s : Int) + 1)), .int (iI (((s : Int) - (kT K b : Nat)) % (G : Int))), .int (iI (kT K b))] [] (am_sh I3 J) ∧ (∀ c j, c ≠ 86 → I3 c j = I c j) ∧ ∀ j : Nat, j < G → I3 86 j = bI (OFp K a b s (kT K b) j)) (by
      rintro u I3 hu ⟨f3, v3⟩
      right
      have g3 := hF I3 f3
      have et3 := CS_tn g3 hb
      rw [eB] at et3
      have e36 := k_36 (X := X) (J := J) g3 ha hb (e := ke K) (s := s) (u := u) he.1 he.2 (by omega) (by omega) (by omega) (by omega)
      have m1 := Int.emod_nonneg ((s : Int) - u) (show (G : Int) ≠ 0 by omega)
      have m2 := Int.emod_lt_of_pos ((s : Int) - u) (show 0 < (G : Int) by omega)
      have emm : (((s : Int) - ((u + 1 : Nat) : Int))) % (G : Int) = ((s : Int) - u - 1) % (G : Int) := by congr 1; omega
      by_cases q : ps_d (kf K a) (kf K b) s u ≤ ke K * ke K
      · rw [bI_t q] at e36
        refine ⟨am_up I3 86 (((s : Int) - u) % (G : Int)).toNat (iI 1), ⟨fun c j hc => by rw [up_c hc]; exact f3 c j hc, fun j hj => ?_⟩, ?_⟩
        · by_cases e : j = (((s : Int) - u) % (G : Int)).toNat
          · rw [e, up_at, bI_t]
            exact ⟨s, u, Or.inr ⟨rfl, by omega⟩, hs, hu, by rw [hG]; omega, q⟩
          · rw [up_k e, v3 j hj]
            unfold bI
            rw [bl_cg]
            constructor
            · rintro ⟨s', u', x1, x2⟩
              exact ⟨s', u', by omega, x2⟩
            · rintro ⟨s', u', x1, x2, x3, x4, x5⟩
              refine ⟨s', u', ?_, x2, x3, x4, x5⟩
              by_cases z : s' = s ∧ u' = u
              · rw [z.1, z.2, hG] at x4
                omega
              · omega
        · try dsimp only
          rw [emm, cS, sg_70_28]
          · rcases em1 (G := G) (by omega) ((s : Int) - u) with ⟨y1, y2⟩ | ⟨y1, y2⟩
            · rw [y2]
              simp (disch := first | omega | assumption | exact cat_n | exact cat_i _ | exact cat_r _ | (simp (disch := omega) only [l_0, l_1, l_m1, l_2, l_3, l_4, l_5, l_6, l_7, l_8, l_9, l_10, l_16, l_20, l_40, l_48, l_99, l_200, l_999, l_9999, li_73, li_78, li_m1000000, li_90, li_251, li_400, li_2400, li_91, li_153, li_173, li_96, li_32, li_92, li_12, li_93, li_80, li_14, li_1000000000, li_30, li_11, li_24, li_13, li_97, li_64, li_1600, li_49, li_255, li_2147483647, li_12345, li_1103515245, li_59, li_57, li_122, li_1023, li_1000000, li_52, li_51, li_50, li_47, li_46, li_45, li_44, li_43, li_42, li_41, li_39, li_38, li_37, li_36, li_35, li_34, li_33, li_29, li_28, li_27, li_26, li_25, li_23, li_22, li_21, li_19, li_18, li_17, li_15, li_m8, li_m2, li_60, li_54, li_2907, li_151, li_127, oN, iI_add, iI_sub, iI_mul, iI_neg, Int.reduceAdd, Int.reduceSub, Int.reduceMul, Int.reduceNeg, Int.toNat_natCast, iI_lt, iI_le, iI_eq, iI_cl, true_or, or_true, false_or, or_false, true_and, and_true, not_true_eq_false, not_false_eq_true]; first | done | omega)) only [↓if_pos, ↓if_neg, Option.bind_some, Option.toList_some, Option.toList_none, List.cons_append, List.nil_append, l_0, l_1, l_m1, l_2, l_3, l_4, l_5, l_6, l_7, l_8, l_9, l_10, l_16, l_20, l_40, l_48, l_99, l_200, l_999, l_9999, li_73, li_78, li_m1000000, li_90, li_251, li_400, li_2400, li_91, li_153, li_173, li_96, li_32, li_92, li_12, li_93, li_80, li_14, li_1000000000, li_30, li_11, li_24, li_13, li_97, li_64, li_1600, li_49, li_255, li_2147483647, li_12345, li_1103515245, li_59, li_57, li_122, li_1023, li_1000000, li_52, li_51, li_50, li_47, li_46, li_45, li_44, li_43, li_42, li_41, li_39, li_38, li_37, li_36, li_35, li_34, li_33, li_29, li_28, li_27, li_26, li_25, li_23, li_22, li_21, li_19, li_18, li_17, li_15, li_m8, li_m2, li_60, li_54, li_2907, li_151, li_127, oN, iI_add, iI_sub, iI_mul, iI_neg, Int.reduceAdd, Int.reduceSub, Int.reduceMul, Int.reduceNeg, Int.toNat_natCast, iI_cl, sg_70_40, et3, CS_e g3, e36]
            · rw [y2]
              simp (disch := first | omega | assumption | exact cat_n | exact cat_i _ | exact cat_r _ | (simp (disch := omega) only [l_0, l_1, l_m1, l_2, l_3, l_4, l_5, l_6, l_7, l_8, l_9, l_10, l_16, l_20, l_40, l_48, l_99, l_200, l_999, l_9999, li_73, li_78, li_m1000000, li_90, li_251, li_400, li_2400, li_91, li_153, li_173, li_96, li_32, li_92, li_12, li_93, li_80, li_14, li_1000000000, li_30, li_11, li_24, li_13, li_97, li_64, li_1600, li_49, li_255, li_2147483647, li_12345, li_1103515245, li_59, li_57, li_122, li_1023, li_1000000, li_52, li_51, li_50, li_47, li_46, li_45, li_44, li_43, li_42, li_41, li_39, li_38, li_37, li_36, li_35, li_34, li_33, li_29, li_28, li_27, li_26, li_25, li_23, li_22, li_21, li_19, li_18, li_17, li_15, li_m8, li_m2, li_60, li_54, li_2907, li_151, li_127, oN, iI_add, iI_sub, iI_mul, iI_neg, Int.reduceAdd, Int.reduceSub, Int.reduceMul, Int.reduceNeg, Int.toNat_natCast, iI_lt, iI_le, iI_eq, iI_cl, true_or, or_true, false_or, or_false, true_and, and_true, not_true_eq_false, not_false_eq_true]; first | done | omega)) only [↓if_pos, ↓if_neg, Option.bind_some, Option.toList_some, Option.toList_none, List.cons_append, List.nil_append, l_0, l_1, l_m1, l_2, l_3, l_4, l_5, l_6, l_7, l_8, l_9, l_10, l_16, l_20, l_40, l_48, l_99, l_200, l_999, l_9999, li_73, li_78, li_m1000000, li_90, li_251, li_400, li_2400, li_91, li_153, li_173, li_96, li_32, li_92, li_12, li_93, li_80, li_14, li_1000000000, li_30, li_11, li_24, li_13, li_97, li_64, li_1600, li_49, li_255, li_2147483647, li_12345, li_1103515245, li_59, li_57, li_122, li_1023, li_1000000, li_52, li_51, li_50, li_47, li_46, li_45, li_44, li_43, li_42, li_41, li_39, li_38, li_37, li_36, li_35, li_34, li_33, li_29, li_28, li_27, li_26, li_25, li_23, li_22, li_21, li_19, li_18, li_17, li_15, li_m8, li_m2, li_60, li_54, li_2907, li_151, li_127, oN, iI_add, iI_sub, iI_mul, iI_neg, Int.reduceAdd, Int.reduceSub, Int.reduceMul, Int.reduceNeg, Int.toNat_natCast, iI_cl, sg_70_40, et3, CS_e g3, e36]
          all_goals first | assumption | omega | exact cat_n | exact cat_i _ | exact cat_r _ | rfl
      · rw [bI_f q] at e36
        refine ⟨I3, ⟨f3, fun j hj => ?_⟩, ?_⟩
        · rw [v3 j hj]
          unfold bI
          rw [bl_cg]
          constructor
          · rintro ⟨s', u', x1, x2⟩
            exact ⟨s', u', by omega, x2⟩
          · rintro ⟨s', u', x1, x2, x3, x4, x5⟩
            refine ⟨s', u', ?_, x2, x3, x4, x5⟩
            by_cases z : s' = s ∧ u' = u
            · rw [z.1, z.2] at x5
              exact absurd x5 q
            · omega
        · try dsimp only
          rw [emm, cS, sg_70_28]
          · rcases em1 (G := G) (by omega) ((s : Int) - u) with ⟨y1, y2⟩ | ⟨y1, y2⟩
            · rw [y2]
              simp (disch := first | omega | assumption | exact cat_n | exact cat_i _ | exact cat_r _ | (simp (disch := omega) only [l_0, l_1, l_m1, l_2, l_3, l_4, l_5, l_6, l_7, l_8, l_9, l_10, l_16, l_20, l_40, l_48, l_99, l_200, l_999, l_9999, li_73, li_78, li_m1000000, li_90, li_251, li_400, li_2400, li_91, li_153, li_173, li_96, li_32, li_92, li_12, li_93, li_80, li_14, li_1000000000, li_30, li_11, li_24, li_13, li_97, li_64, li_1600, li_49, li_255, li_2147483647, li_12345, li_1103515245, li_59, li_57, li_122, li_1023, li_1000000, li_52, li_51, li_50, li_47, li_46, li_45, li_44, li_43, li_42, li_41, li_39, li_38, li_37, li_36, li_35, li_34, li_33, li_29, li_28, li_27, li_26, li_25, li_23, li_22, li_21, li_19, li_18, li_17, li_15, li_m8, li_m2, li_60, li_54, li_2907, li_151, li_127, oN, iI_add, iI_sub, iI_mul, iI_neg, Int.reduceAdd, Int.reduceSub, Int.reduceMul, Int.reduceNeg, Int.toNat_natCast, iI_lt, iI_le, iI_eq, iI_cl, true_or, or_true, false_or, or_false, true_and, and_true, not_true_eq_false, not_false_eq_true]; first | done | omega)) only [↓if_pos, ↓if_neg, Option.bind_some, Option.toList_some, Option.toList_none, List.cons_append, List.nil_append, l_0, l_1, l_m1, l_2, l_3, l_4, l_5, l_6, l_7, l_8, l_9, l_10, l_16, l_20, l_40, l_48, l_99, l_200, l_999, l_9999, li_73, li_78, li_m1000000, li_90, li_251, li_400, li_2400, li_91, li_153, li_173, li_96, li_32, li_92, li_12, li_93, li_80, li_14, li_1000000000, li_30, li_11, li_24, li_13, li_97, li_64, li_1600, li_49, li_255, li_2147483647, li_12345, li_1103515245, li_59, li_57, li_122, li_1023, li_1000000, li_52, li_51, li_50, li_47, li_46, li_45, li_44, li_43, li_42, li_41, li_39, li_38, li_37, li_36, li_35, li_34, li_33, li_29, li_28, li_27, li_26, li_25, li_23, li_22, li_21, li_19, li_18, li_17, li_15, li_m8, li_m2, li_60, li_54, li_2907, li_151, li_127, oN, iI_add, iI_sub, iI_mul, iI_neg, Int.reduceAdd, Int.reduceSub, Int.reduceMul, Int.reduceNeg, Int.toNat_natCast, iI_cl, sg_70_40, et3, CS_e g3, e36]
            · rw [y2]
              simp (disch := first | omega | assumption | exact cat_n | exact cat_i _ | exact cat_r _ | (simp (disch := omega) only [l_0, l_1, l_m1, l_2, l_3, l_4, l_5, l_6, l_7, l_8, l_9, l_10, l_16, l_20, l_40, l_48, l_99, l_200, l_999, l_9999, li_73, li_78, li_m1000000, li_90, li_251, li_400, li_2400, li_91, li_153, li_173, li_96, li_32, li_92, li_12, li_93, li_80, li_14, li_1000000000, li_30, li_11, li_24, li_13, li_97, li_64, li_1600, li_49, li_255, li_2147483647, li_12345, li_1103515245, li_59, li_57, li_122, li_1023, li_1000000, li_52, li_51, li_50, li_47, li_46, li_45, li_44, li_43, li_42, li_41, li_39, li_38, li_37, li_36, li_35, li_34, li_33, li_29, li_28, li_27, li_26, li_25, li_23, li_22, li_21, li_19, li_18, li_17, li_15, li_m8, li_m2, li_60, li_54, li_2907, li_151, li_127, oN, iI_add, iI_sub, iI_mul, iI_neg, Int.reduceAdd, Int.reduceSub, Int.reduceMul, Int.reduceNeg, Int.toNat_natCast, iI_lt, iI_le, iI_eq, iI_cl, true_or, or_true, false_or, or_false, true_and, and_true, not_true_eq_false, not_false_eq_true]; first | done | omega)) only [↓if_pos, ↓if_neg, Option.bind_some, Option.toList_some, Option.toList_none, List.cons_append, List.nil_append, l_0, l_1, l_m1, l_2, l_3, l_4, l_5, l_6, l_7, l_8, l_9, l_10, l_16, l_20, l_40, l_48, l_99, l_200, l_999, l_9999, li_73, li_78, li_m1000000, li_90, li_251, li_400, li_2400, li_91, li_153, li_173, li_96, li_32, li_92, li_12, li_93, li_80, li_14, li_1000000000, li_30, li_11, li_24, li_13, li_97, li_64, li_1600, li_49, li_255, li_2147483647, li_12345, li_1103515245, li_59, li_57, li_122, li_1023, li_1000000, li_52, li_51, li_50, li_47, li_46, li_45, li_44, li_43, li_42, li_41, li_39, li_38, li_37, li_36, li_35, li_34, li_33, li_29, li_28, li_27, li_26, li_25, li_23, li_22, li_21, li_19, li_18, li_17, li_15, li_m8, li_m2, li_60, li_54, li_2907, li_151, li_127, oN, iI_add, iI_sub, iI_mul, iI_neg, Int.reduceAdd, Int.reduceSub, Int.reduceMul, Int.reduceNeg, Int.toNat_natCast, iI_cl, sg_70_40, et3, CS_e g3, e36]
          all_goals first | assumption | omega | exact cat_n | exact cat_i _ | exact cat_r _ | rfl) (by
      rintro I3 ⟨f3, v3⟩
      have g3 := hF I3 f3
      have et3 := CS_tn g3 hb
      rw [eB] at et3
      refine ⟨I3, ?_, f3, v3⟩
      try dsimp only
      rw [sg_70_28]
      · simp (disch := first | omega | assumption | exact cat_n | exact cat_i _ | exact cat_r _ | (simp (disch := omega) only [l_0, l_1, l_m1, l_2, l_3, l_4, l_5, l_6, l_7, l_8, l_9, l_10, l_16, l_20, l_40, l_48, l_99, l_200, l_999, l_9999, li_73, li_78, li_m1000000, li_90, li_251, li_400, li_2400, li_91, li_153, li_173, li_96, li_32, li_92, li_12, li_93, li_80, li_14, li_1000000000, li_30, li_11, li_24, li_13, li_97, li_64, li_1600, li_49, li_255, li_2147483647, li_12345, li_1103515245, li_59, li_57, li_122, li_1023, li_1000000, li_52, li_51, li_50, li_47, li_46, li_45, li_44, li_43, li_42, li_41, li_39, li_38, li_37, li_36, li_35, li_34, li_33, li_29, li_28, li_27, li_26, li_25, li_23, li_22, li_21, li_19, li_18, li_17, li_15, li_m8, li_m2, li_60, li_54, li_2907, li_151, li_127, oN, iI_add, iI_sub, iI_mul, iI_neg, Int.reduceAdd, Int.reduceSub, Int.reduceMul, Int.reduceNeg, Int.toNat_natCast, iI_lt, iI_le, iI_eq, iI_cl, true_or, or_true, false_or, or_false, true_and, and_true, not_true_eq_false, not_false_eq_true]; first | done | omega)) only [↓if_pos, ↓if_neg, Option.bind_some, Option.toList_some, Option.toList_none, List.cons_append, List.nil_append, l_0, l_1, l_m1, l_2, l_3, l_4, l_5, l_6, l_7, l_8, l_9, l_10, l_16, l_20, l_40, l_48, l_99, l_200, l_999, l_9999, li_73, li_78, li_m1000000, li_90, li_251, li_400, li_2400, li_91, li_153, li_173, li_96, li_32, li_92, li_12, li_93, li_80, li_14, li_1000000000, li_30, li_11, li_24, li_13, li_97, li_64, li_1600, li_49, li_255, li_2147483647, li_12345, li_1103515245, li_59, li_57, li_122, li_1023, li_1000000, li_52, li_51, li_50, li_47, li_46, li_45, li_44, li_43, li_42, li_41, li_39, li_38, li_37, li_36, li_35, li_34, li_33, li_29, li_28, li_27, li_26, li_25, li_23, li_22, li_21, li_19, li_18, li_17, li_15, li_m8, li_m2, li_60, li_54, li_2907, li_151, li_127, oN, iI_add, iI_sub, iI_mul, iI_neg, Int.reduceAdd, Int.reduceSub, Int.reduceMul, Int.reduceNeg, Int.toNat_natCast, iI_cl, et3]
      all_goals first | assumption | omega | exact cat_n | exact cat_i _ | exact cat_r _ | rfl) I2 ⟨f2, v2⟩
    obtain ⟨I3, c1, f3, v3⟩ := C
    try dsimp only at c1
    rw [← hmod, c0] at c1
    refine ⟨(I3, .int (iI (((s : Int) - (kT K b : Nat)) % (G : Int))), .int (iI (kT K b))), ⟨f3, fun j hj => ?_, rfl, rfl⟩, ?_⟩
    · try dsimp only
      rw [v3 j hj]
      unfold bI
      rw [bl_cg]
      constructor
      · rintro ⟨s', u', x1, x2⟩
        exact ⟨s', u', by omega, x2⟩
      · rintro ⟨s', u', x1, x2, x3, x4, x5⟩
        exact ⟨s', u', by omega, x2, x3, x4, x5⟩
    · try dsimp only
      rw [cS, sg_70_18]
      · simp (disch := first | omega | assumption | exact cat_n | exact cat_i _ | exact cat_r _ | (simp (disch := omega) only [l_0, l_1, l_m1, l_2, l_3, l_4, l_5, l_6, l_7, l_8, l_9, l_10, l_16, l_20, l_40, l_48, l_99, l_200, l_999, l_9999, li_73, li_78, li_m1000000, li_90, li_251, li_400, li_2400, li_91, li_153, li_173, li_96, li_32, li_92, li_12, li_93, li_80, li_14, li_1000000000, li_30, li_11, li_24, li_13, li_97, li_64, li_1600, li_49, li_255, li_2147483647, li_12345, li_1103515245, li_59, li_57, li_122, li_1023, li_1000000, li_52, li_51, li_50, li_47, li_46, li_45, li_44, li_43, li_42, li_41, li_39, li_38, li_37, li_36, li_35, li_34, li_33, li_29, li_28, li_27, li_26, li_25, li_23, li_22, li_21, li_19, li_18, li_17, li_15, li_m8, li_m2, li_60, li_54, li_2907, li_151, li_127, oN, iI_add, iI_sub, iI_mul, iI_neg, Int.reduceAdd, Int.reduceSub, Int.reduceMul, Int.reduceNeg, Int.toNat_natCast, iI_lt, iI_le, iI_eq, iI_cl, true_or, or_true, false_or, or_false, true_and, and_true, not_true_eq_false, not_false_eq_true]; first | done | omega)) only [↓if_pos, ↓if_neg, Option.bind_some, Option.toList_some, Option.toList_none, List.cons_append, List.nil_append, l_0, l_1, l_m1, l_2, l_3, l_4, l_5, l_6, l_7, l_8, l_9, l_10, l_16, l_20, l_40, l_48, l_99, l_200, l_999, l_9999, li_73, li_78, li_m1000000, li_90, li_251, li_400, li_2400, li_91, li_153, li_173, li_96, li_32, li_92, li_12, li_93, li_80, li_14, li_1000000000, li_30, li_11, li_24, li_13, li_97, li_64, li_1600, li_49, li_255, li_2147483647, li_12345, li_1103515245, li_59, li_57, li_122, li_1023, li_1000000, li_52, li_51, li_50, li_47, li_46, li_45, li_44, li_43, li_42, li_41, li_39, li_38, li_37, li_36, li_35, li_34, li_33, li_29, li_28, li_27, li_26, li_25, li_23, li_22, li_21, li_19, li_18, li_17, li_15, li_m8, li_m2, li_60, li_54, li_2907, li_151, li_127, oN, iI_add, iI_sub, iI_mul, iI_neg, Int.reduceAdd, Int.reduceSub, Int.reduceMul, Int.reduceNeg, Int.toNat_natCast, iI_cl, et, iI_div, em_, c1]
      all_goals first | assumption | omega | exact cat_n | exact cat_i _ | exact cat_r _ | rfl) (by
    rintro ⟨I2, w5, w6⟩ ⟨f2, v2, k5, k6⟩
    try dsimp only at f2 v2 k5 k6
    have g2 := hF I2 f2
    have et := CS_tn g2 ha
    rw [eA] at et
    refine ⟨I2, ?_, f2, v2⟩
    try dsimp only
    rw [sg_70_18]
    · simp (disch := first | omega | assumption | exact cat_n | exact cat_i _ | exact cat_r _ | (simp (disch := omega) only [l_0, l_1, l_m1, l_2, l_3, l_4, l_5, l_6, l_7, l_8, l_9, l_10, l_16, l_20, l_40, l_48, l_99, l_200, l_999, l_9999, li_73, li_78, li_m1000000, li_90, li_251, li_400, li_2400, li_91, li_153, li_173, li_96, li_32, li_92, li_12, li_93, li_80, li_14, li_1000000000, li_30, li_11, li_24, li_13, li_97, li_64, li_1600, li_49, li_255, li_2147483647, li_12345, li_1103515245, li_59, li_57, li_122, li_1023, li_1000000, li_52, li_51, li_50, li_47, li_46, li_45, li_44, li_43, li_42, li_41, li_39, li_38, li_37, li_36, li_35, li_34, li_33, li_29, li_28, li_27, li_26, li_25, li_23, li_22, li_21, li_19, li_18, li_17, li_15, li_m8, li_m2, li_60, li_54, li_2907, li_151, li_127, oN, iI_add, iI_sub, iI_mul, iI_neg, Int.reduceAdd, Int.reduceSub, Int.reduceMul, Int.reduceNeg, Int.toNat_natCast, iI_lt, iI_le, iI_eq, iI_cl, true_or, or_true, false_or, or_false, true_and, and_true, not_true_eq_false, not_false_eq_true]; first | done | omega)) only [↓if_pos, ↓if_neg, Option.bind_some, Option.toList_some, Option.toList_none, List.cons_append, List.nil_append, l_0, l_1, l_m1, l_2, l_3, l_4, l_5, l_6, l_7, l_8, l_9, l_10, l_16, l_20, l_40, l_48, l_99, l_200, l_999, l_9999, li_73, li_78, li_m1000000, li_90, li_251, li_400, li_2400, li_91, li_153, li_173, li_96, li_32, li_92, li_12, li_93, li_80, li_14, li_1000000000, li_30, li_11, li_24, li_13, li_97, li_64, li_1600, li_49, li_255, li_2147483647, li_12345, li_1103515245, li_59, li_57, li_122, li_1023, li_1000000, li_52, li_51, li_50, li_47, li_46, li_45, li_44, li_43, li_42, li_41, li_39, li_38, li_37, li_36, li_35, li_34, li_33, li_29, li_28, li_27, li_26, li_25, li_23, li_22, li_21, li_19, li_18, li_17, li_15, li_m8, li_m2, li_60, li_54, li_2907, li_151, li_127, oN, iI_add, iI_sub, iI_mul, iI_neg, Int.reduceAdd, Int.reduceSub, Int.reduceMul, Int.reduceNeg, Int.toNat_natCast, iI_cl, et]
    all_goals first | assumption | omega | exact cat_n | exact cat_i _ | exact cat_r _ | rfl) (I1, .null, .null) ⟨f1, fun j hj => by
      try dsimp only
      rw [v1 j (by omega), bI_f]
      rintro ⟨s, u, x1, -⟩
      omega, rfl, rfl⟩
  obtain ⟨I', b1, f', v'⟩ := B
  try dsimp only at b1
  rw [c0] at b1
  refine ⟨I', ?_, f', fun k hk => ?_⟩
  · simp (disch := first | omega | assumption | exact cat_n | exact cat_i _ | exact cat_r _ | (simp (disch := omega) only [l_0, l_1, l_m1, l_2, l_3, l_4, l_5, l_6, l_7, l_8, l_9, l_10, l_16, l_20, l_40, l_48, l_99, l_200, l_999, l_9999, li_73, li_78, li_m1000000, li_90, li_251, li_400, li_2400, li_91, li_153, li_173, li_96, li_32, li_92, li_12, li_93, li_80, li_14, li_1000000000, li_30, li_11, li_24, li_13, li_97, li_64, li_1600, li_49, li_255, li_2147483647, li_12345, li_1103515245, li_59, li_57, li_122, li_1023, li_1000000, li_52, li_51, li_50, li_47, li_46, li_45, li_44, li_43, li_42, li_41, li_39, li_38, li_37, li_36, li_35, li_34, li_33, li_29, li_28, li_27, li_26, li_25, li_23, li_22, li_21, li_19, li_18, li_17, li_15, li_m8, li_m2, li_60, li_54, li_2907, li_151, li_127, oN, iI_add, iI_sub, iI_mul, iI_neg, Int.reduceAdd, Int.reduceSub, Int.reduceMul, Int.reduceNeg, Int.toNat_natCast, iI_lt, iI_le, iI_eq, iI_cl, true_or, or_true, false_or, or_false, true_and, and_true, not_true_eq_false, not_false_eq_true]; first | done | omega)) only [↓if_pos, ↓if_neg, Option.bind_some, Option.toList_some, Option.toList_none, List.cons_append, List.nil_append, l_0, l_1, l_m1, l_2, l_3, l_4, l_5, l_6, l_7, l_8, l_9, l_10, l_16, l_20, l_40, l_48, l_99, l_200, l_999, l_9999, li_73, li_78, li_m1000000, li_90, li_251, li_400, li_2400, li_91, li_153, li_173, li_96, li_32, li_92, li_12, li_93, li_80, li_14, li_1000000000, li_30, li_11, li_24, li_13, li_97, li_64, li_1600, li_49, li_255, li_2147483647, li_12345, li_1103515245, li_59, li_57, li_122, li_1023, li_1000000, li_52, li_51, li_50, li_47, li_46, li_45, li_44, li_43, li_42, li_41, li_39, li_38, li_37, li_36, li_35, li_34, li_33, li_29, li_28, li_27, li_26, li_25, li_23, li_22, li_21, li_19, li_18, li_17, li_15, li_m8, li_m2, li_60, li_54, li_2907, li_151, li_127, oN, iI_add, iI_sub, iI_mul, iI_neg, Int.reduceAdd, Int.reduceSub, Int.reduceMul, Int.reduceNeg, Int.toNat_natCast, iI_cl, cl_70, sg_70_e0, sg_70_3, hgc, a1, b1]
  · rw [v' k hk]
    unfold bI
    rw [bl_cg]
    constructor
    · rintro ⟨s, u, x1, x2, x3, x4, x5⟩
      rw [hG] at x4
      exact ⟨s, u, by omega, by omega, by rw [hG]; exact x4, x5⟩
    · rintro ⟨s, u, x2, x3, x4, x5⟩
      exact ⟨s, u, by omega, by omega, by omega, x4, x5⟩
end S57
