/-! A RUN WITHOUT A BODY: what it meets is how the others go on -/
/-- the others that are up -/
def oth (K : Sk) (b x : Nat) : Prop := ku K x ∧ ¬ x = b
section RUNW
variable {K : Sk} {b : Nat} {f : Nat → Int}
theorem as_1 (S : Nat → Prop) (k x : Nat) : as_ K S (k + 1) x ↔ as_ K S k x ∧ ∀ o, o < kn K → o ≠ x → as_ K S k o → kz K * kz K < ps_far (kf K x) (kf K o) (kt K + k) := by
  constructor
  · rintro ⟨h1, h2⟩
    refine ⟨h1, fun o ho hx ha => ?_⟩
    apply Classical.byContradiction
    intro z
    exact h2 ⟨h1, o, ho, hx, ha, by omega⟩
  · rintro ⟨h1, h2⟩
    refine ⟨h1, ?_⟩
    rintro ⟨-, o, o1, o2, o3, o4⟩
    have := h2 o o1 o2 o3
    omega
/-- while b has met none, the others are as they would be without it -/
theorem as_oth (hb : b < kn K) (h8 : f 8 = 1) : ∀ n, (as_ (ks K b f) (ku (ks K b f)) n b ↔ ∀ t, t < n → ∀ o, as_ K (oth K b) t o → kz K * kz K < ps_far f (kf K o) (kt K + t)) ∧ (as_ (ks K b f) (ku (ks K b f)) n b → ∀ o, o ≠ b → (as_ (ks K b f) (ku (ks K b f)) n o ↔ as_ K (oth K b) n o)) := by
  have nb : ∀ t o, as_ K (oth K b) t o → o < kn K ∧ o ≠ b := fun t o h => by
    have := as_S h
    exact ⟨this.1.1, this.2⟩
  intro n
  induction n with
  | zero =>
    have e : ku (ks K b f) b := ⟨hb, by rw [ks_b]; exact h8⟩
    refine ⟨⟨fun _ t ht => by omega, fun _ => e⟩, fun _ o ho => ?_⟩
    show ku (ks K b f) o ↔ oth K b o
    unfold ku oth
    rw [ks_o ho]
    exact ⟨fun z => ⟨z, ho⟩, fun z => z.1⟩
  | succ n ih =>
    obtain ⟨ih1, ih2⟩ := ih
    have hs : as_ (ks K b f) (ku (ks K b f)) (n + 1) b ↔ ∀ t, t < n + 1 → ∀ o, as_ K (oth K b) t o → kz K * kz K < ps_far f (kf K o) (kt K + t) := by
      rw [as_1]
      constructor
      · rintro ⟨h1, h2⟩ t ht o ho
        by_cases e : t = n
        · subst e
          obtain ⟨o1, o2⟩ := nb t o ho
          have := h2 o o1 o2 ((ih2 h1 o o2).mpr ho)
          rw [ks_b, ks_o o2] at this
          exact this
        · exact ih1.mp h1 t (by omega) o ho
      · intro h
        have h1 := ih1.mpr (fun t ht => h t (by omega))
        refine ⟨h1, fun o ho hob ha => ?_⟩
        rw [ks_b, ks_o hob]
        exact h n (by omega) o ((ih2 h1 o hob).mp ha)
    refine ⟨hs, fun hb1 o ho => ?_⟩
    have h1 : as_ (ks K b f) (ku (ks K b f)) n b := hb1.1
    rw [as_1, as_1]
    constructor
    · rintro ⟨g1, g2⟩
      refine ⟨(ih2 h1 o ho).mp g1, fun x hx hxo hax => ?_⟩
      have hxb := (nb n x hax).2
      have := g2 x hx hxo ((ih2 h1 x hxb).mpr hax)
      rw [ks_o ho, ks_o hxb] at this
      exact this
    · rintro ⟨g1, g2⟩
      refine ⟨(ih2 h1 o ho).mpr g1, fun x hx hxo hax => ?_⟩
      by_cases e : x = b
      · subst e
        rw [ks_b, ks_o ho, ps_far_com]
        exact (hs.mp hb1) n (by omega) o g1
      · rw [ks_o ho, ks_o e]
        exact g2 x hx hxo ((ih2 h1 x e).mp hax)
/-- how many ticks one is up -/
theorem upt_lt {S : Nat → Prop} {T x t : Nat} {u : Int} (h : upt K S T T x u) (ht : t < T) : as_ K S t x ↔ (t : Int) < u := by
  rcases h with ⟨h1, rfl⟩ | ⟨h1, rfl⟩ | ⟨j, j1, j2, j3, rfl⟩
  · exact ⟨fun z => absurd (as_S z) h1, fun z => by omega⟩
  · exact ⟨fun _ => by omega, fun _ => as_mono (T - t) t x (by rw [show t + (T - t) = T by omega]; exact h1)⟩
  · constructor
    · intro z
      apply Classical.byContradiction
      intro w
      exact j3 (as_mono (t - (j + 1)) (j + 1) x (by rw [show j + 1 + (t - (j + 1)) = t by omega]; exact z))
    · intro z
      exact as_mono (j - t) t x (by rw [show t + (j - t) = j by omega]; exact j2)
theorem upt_rg {S : Nat → Prop} {T x : Nat} {u : Int} (h : upt K S T T x u) : 0 ≤ u ∧ u ≤ T := by
  rcases h with ⟨h1, rfl⟩ | ⟨h1, rfl⟩ | ⟨j, j1, j2, j3, rfl⟩
  · omega
  · omega
  · omega
/-- one that is met within its ticks -/
def mt_ (K : Sk) (f g : Nat → Int) (u : Int) : Prop := ∃ t : Nat, (t : Int) < u ∧ ps_far f g (kt K + t) ≤ kz K * kz K
theorem safe_iff (hb : b < kn K) (h8 : f 8 = 1) {T : Nat} {u : Nat → Int} (hu : ∀ x, x < kn K → upt K (oth K b) T T x (u x)) : as_ (ks K b f) (ku (ks K b f)) T b ↔ ∀ o, o < kn K → ¬ mt_ K f (kf K o) (u o) := by
  rw [(as_oth hb h8 T).1]
  constructor
  · rintro h o ho ⟨t, t1, t2⟩
    have r := upt_rg (hu o ho)
    have := h t (by omega) o ((upt_lt (hu o ho) (by omega)).mpr t1)
    omega
  · intro h t ht o ha
    apply Classical.byContradiction
    intro z
    have ho := (as_S ha).1.1
    exact h o ho ⟨t, (upt_lt (hu o ho) ht).mp ha, by omega⟩
end RUNW
section S9m
variable {X : am_X} {K : Sk} {I I' I0 : Nat → Nat → Int32} {J : Nat → Nat → Int64} {b o : Nat} {f : Nat → Int}
theorem k_132 (h : CS K I) (hC : rl_C I) (hb : b < kn K) {T : Nat} (hT : T ≤ 2400) : ∃ (I' : Nat → Nat → Int32) (u : Nat → Int), am_do X 132 [.ref 96, .int (iI b), .int (iI T)] (am_sh I J) = some (none, am_sh I' J) ∧ Fr W_q I I' ∧ rl_C I' ∧ ∀ x, x < kn K → I' 91 x = iI (u x) ∧ upt K (oth K b) T T x (u x) := by
  have hn := K_n (CS_k h)
  have hz := K_z (CS_k h)
  have es : st (ku K) (kn K) &&& (st (fun x => x = b) (kn K) ^^^ iI (-1)) = st (oth K b) (kn K) := st_dif (by omega)
  have e1b : iI 1 <<< (iI b &&& 31) = st (fun x => x = b) (kn K) := st_one (by omega) hb
  obtain ⟨I1, mt, p1, a1, m1, f1, C1⟩ := k_15 (X := X) (J := J) (S := oth K b) h hC (fun x hx => hx.1.1) (e := kz K) (T := T) (by omega) (by omega) (by omega) (by omega)
  have h1 : CS K I1 := CS_fr h f1
  obtain ⟨I2, v, p2, f2, g2, -⟩ := k_18 (X := X) (J := J) h1 a1 (fun x hx => hx.1.1) m1 hT (w := -1) (Or.inl rfl)
  have g3 := (g2 rfl).2
  refine ⟨I2, fun x => (I2 91 x).toInt, ?_, Fr_tr f1 (W_ah f2), C_ah h1 C1 f2, fun x hx => ⟨(iI_to _).symm, ?_⟩⟩
  · simp (disch := first | omega | assumption | exact cat_n | exact cat_i _ | exact cat_r _ | (simp (disch := omega) only [l_0, l_1, l_m1, l_2, l_3, l_4, l_5, l_6, l_7, l_8, l_9, l_10, l_16, l_20, l_40, l_48, l_99, l_200, l_999, l_9999, li_73, li_78, li_m1000000, li_90, li_251, li_400, li_2400, li_91, li_153, li_173, li_96, li_32, li_92, li_12, li_93, li_80, li_14, li_1000000000, li_30, li_11, li_24, li_13, li_97, li_64, li_1600, li_49, li_255, li_2147483647, li_12345, li_1103515245, li_59, li_57, li_122, li_1023, li_1000000, li_52, li_51, li_50, li_47, li_46, li_45, li_44, li_43, li_42, li_41, li_39, li_38, li_37, li_36, li_35, li_34, li_33, li_29, li_28, li_27, li_26, li_25, li_23, li_22, li_21, li_19, li_18, li_17, li_15, li_m8, li_m2, li_60, li_54, li_2907, li_151, li_127, oN, iI_add, iI_sub, iI_mul, iI_neg, Int.reduceAdd, Int.reduceSub, Int.reduceMul, Int.reduceNeg, Int.toNat_natCast, Int.reduceToNat, iI_lt, iI_le, iI_eq, iI_cl, true_or, or_true, false_or, or_false, true_and, and_true, not_true_eq_false, not_false_eq_true]; first | done | omega)) only [↓if_pos, ↓if_neg, Option.bind_some, Option.toList_some, Option.toList_none, List.cons_append, List.nil_append, l_0, l_1, l_m1, l_2, l_3, l_4, l_5, l_6, l_7, l_8, l_9, l_10, l_16, l_20, l_40, l_48, l_99, l_200, l_999, l_9999, li_73, li_78, li_m1000000, li_90, li_251, li_400, li_2400, li_91, li_153, li_173, li_96, li_32, li_92, li_12, li_93, li_80, li_14, li_1000000000, li_30, li_11, li_24, li_13, li_97, li_64, li_1600, li_49, li_255, li_2147483647, li_12345, li_1103515245, li_59, li_57, li_122, li_1023, li_1000000, li_52, li_51, li_50, li_47, li_46, li_45, li_44, li_43, li_42, li_41, li_39, li_38, li_37, li_36, li_35, li_34, li_33, li_29, li_28, li_27, li_26, li_25, li_23, li_22, li_21, li_19, li_18, li_17, li_15, li_m8, li_m2, li_60, li_54, li_2907, li_151, li_127, oN, iI_add, iI_sub, iI_mul, iI_neg, Int.reduceAdd, Int.reduceSub, Int.reduceMul, Int.reduceNeg, Int.toNat_natCast, Int.reduceToNat, iI_cl, cl_132, sg_132_e0, sg_132_5, sg_132_16, sg_132_21, k_102 h, e1b, es, CS_z h, p1, p2]
  · obtain ⟨u, q1, q2⟩ := g3 x hx
    have r := upt_rg q2
    show upt K (oth K b) T T x (I2 91 x).toInt
    rw [q1, to_iI (by omega) (by omega)]
    exact q2
set_option maxHeartbeats 1000000 in
/-- whether the tried one meets another within its ticks -/
theorem k_137 (h : CS K I) (ht : CB I 10) (hf : cr I 10 = f) (ho : o < kn K) {u : Int} (u0 : 0 ≤ u) (u1 : u ≤ 400) : am_do X 137 [.ref 96, .ref (am_bd o), .int (iI u)] (am_sh I J) = some (some (.int (bI (mt_ K f (kf K o) u))), am_sh I J) := by
  have hK := CS_k h
  have hn := K_n hK
  have hz := K_z hK
  have htt := K_t hK
  have okg := K_f hK ho
  have okf : ps_ok f := by rw [← hf]; exact ht.1
  have tg := CS_tn h ho
  have tf : I 97 1 = iI (f 2) := by
    have := ht.2.1
    rw [hf, bd_10] at this
    exact this
  have rf := okf.2.1
  have rg' := okg.2.1
  have hcy := ps_cy_pos okf okg
  have e30f := c_30 (X := X) (J := J) (b := 10) (by omega) ht (t := kt K) (by omega) (by omega)
  rw [hf, bd_10] at e30f
  have e30g := k_30 (X := X) (J := J) h ho (t := kt K) (by omega) (by omega)
  have c36 : ∀ s w : Int, 0 ≤ s → s < f 2 → 0 ≤ w → w < kf K o 2 → am_do X 36 [.ref 97, .int (iI (kz K)), .int (iI s), .ref (am_bd o), .int (iI w)] (am_sh I J) = some (some (.int (bI (ps_d f (kf K o) s w ≤ kz K * kz K))), am_sh I J) := fun s w s0 s1 w0 w1 => by
    have := c_36b (X := X) (J := J) (b := 10) (o := o) (by omega) (by omega) ht (CS_B h ho) (e := kz K) (s := s) (u := w) (by omega) (by omega) s0 (by rw [hf]; exact s1) w0 (by rw [CS_r h ho]; exact w1)
    rw [hf, CS_r h ho, bd_10] at this
    exact this
  -- the loop over some ticks
  have LP : ∀ (N : Nat), N ≤ 5000 → am_ev X amP_137 32 [.ref 96, .ref (am_bd o), .int (iI u), .int (iI N), .int (iI (ps_s f (kt K))), .int (iI (ps_s (kf K o) (kt K))), .int (iI (0 : Nat))] [] (am_sh I J) = some (some (.int (bI (∃ t : Nat, t < N ∧ ps_far f (kf K o) (kt K + t) ≤ kz K * kz K))), am_sh I J) := by
    intro N hN
    have L := Lp1 (n := N) (G := fun t (_ : Unit) => am_ev X amP_137 32 [.ref 96, .ref (am_bd o), .int (iI u), .int (iI N), .int (iI (ps_s f (kt K + t))), .int (iI (ps_s (kf K o) (kt K + t))), .int (iI t)] [] (am_sh I J)) (Iv := fun t _ => ∀ j : Nat, j < t → kz K * kz K < ps_far f (kf K o) (kt K + j)) (P := fun r => r = some (some (.int (bI (∃ t : Nat, t < N ∧ ps_far f (kf K o) (kt K + t) ≤ kz K * kz K))), am_sh I J)) (by
      intro t _ ht' hv
      have s1 := ps_s_rg okf (kt K + t)
      have s2 := ps_s_rg okg (kt K + t)
      have e36 := c36 _ _ s1.1 s1.2 s2.1 s2.2
      have ed : ps_d f (kf K o) (ps_s f (kt K + t)) (ps_s (kf K o) (kt K + t)) = ps_far f (kf K o) (kt K + t) := rfl
      rw [ed] at e36
      have n1 := ps_s1 okf (kt K + t)
      have n2 := ps_s1 okg (kt K + t)
      by_cases q : ps_far f (kf K o) (kt K + t) ≤ kz K * kz K
      · left
        rw [bI_t q] at e36
        rw [bI_t ⟨t, ht', q⟩]
        try dsimp only
        rw [sg_137_32 (hb1 := by omega), CS_z h]
        simp (disch := first | omega | assumption | exact cat_n | exact cat_i _ | exact cat_r _ | (simp (disch := omega) only [l_0, l_1, l_m1, l_2, l_3, l_4, l_5, l_6, l_7, l_8, l_9, l_10, l_16, l_20, l_40, l_48, l_99, l_200, l_999, l_9999, li_73, li_78, li_m1000000, li_90, li_251, li_400, li_2400, li_91, li_153, li_173, li_96, li_32, li_92, li_12, li_93, li_80, li_14, li_1000000000, li_30, li_11, li_24, li_13, li_97, li_64, li_1600, li_49, li_255, li_2147483647, li_12345, li_1103515245, li_59, li_57, li_122, li_1023, li_1000000, li_52, li_51, li_50, li_47, li_46, li_45, li_44, li_43, li_42, li_41, li_39, li_38, li_37, li_36, li_35, li_34, li_33, li_29, li_28, li_27, li_26, li_25, li_23, li_22, li_21, li_19, li_18, li_17, li_15, li_m8, li_m2, li_60, li_54, li_2907, li_151, li_127, oN, iI_add, iI_sub, iI_mul, iI_neg, Int.reduceAdd, Int.reduceSub, Int.reduceMul, Int.reduceNeg, Int.toNat_natCast, Int.reduceToNat, iI_lt, iI_le, iI_eq, iI_cl, true_or, or_true, false_or, or_false, true_and, and_true, not_true_eq_false, not_false_eq_true]; first | done | omega)) only [↓if_pos, ↓if_neg, Option.bind_some, Option.toList_some, Option.toList_none, List.cons_append, List.nil_append, l_0, l_1, l_m1, l_2, l_3, l_4, l_5, l_6, l_7, l_8, l_9, l_10, l_16, l_20, l_40, l_48, l_99, l_200, l_999, l_9999, li_73, li_78, li_m1000000, li_90, li_251, li_400, li_2400, li_91, li_153, li_173, li_96, li_32, li_92, li_12, li_93, li_80, li_14, li_1000000000, li_30, li_11, li_24, li_13, li_97, li_64, li_1600, li_49, li_255, li_2147483647, li_12345, li_1103515245, li_59, li_57, li_122, li_1023, li_1000000, li_52, li_51, li_50, li_47, li_46, li_45, li_44, li_43, li_42, li_41, li_39, li_38, li_37, li_36, li_35, li_34, li_33, li_29, li_28, li_27, li_26, li_25, li_23, li_22, li_21, li_19, li_18, li_17, li_15, li_m8, li_m2, li_60, li_54, li_2907, li_151, li_127, oN, iI_add, iI_sub, iI_mul, iI_neg, Int.reduceAdd, Int.reduceSub, Int.reduceMul, Int.reduceNeg, Int.toNat_natCast, Int.reduceToNat, iI_cl, e36]
        rw [sg_137_44 (hb1 := by omega)]
        simp (disch := first | omega | assumption | exact cat_n | exact cat_i _ | exact cat_r _ | (simp (disch := omega) only [l_0, l_1, l_m1, l_2, l_3, l_4, l_5, l_6, l_7, l_8, l_9, l_10, l_16, l_20, l_40, l_48, l_99, l_200, l_999, l_9999, li_73, li_78, li_m1000000, li_90, li_251, li_400, li_2400, li_91, li_153, li_173, li_96, li_32, li_92, li_12, li_93, li_80, li_14, li_1000000000, li_30, li_11, li_24, li_13, li_97, li_64, li_1600, li_49, li_255, li_2147483647, li_12345, li_1103515245, li_59, li_57, li_122, li_1023, li_1000000, li_52, li_51, li_50, li_47, li_46, li_45, li_44, li_43, li_42, li_41, li_39, li_38, li_37, li_36, li_35, li_34, li_33, li_29, li_28, li_27, li_26, li_25, li_23, li_22, li_21, li_19, li_18, li_17, li_15, li_m8, li_m2, li_60, li_54, li_2907, li_151, li_127, oN, iI_add, iI_sub, iI_mul, iI_neg, Int.reduceAdd, Int.reduceSub, Int.reduceMul, Int.reduceNeg, Int.toNat_natCast, Int.reduceToNat, iI_lt, iI_le, iI_eq, iI_cl, true_or, or_true, false_or, or_false, true_and, and_true, not_true_eq_false, not_false_eq_true]; first | done | omega)) only [↓if_pos, ↓if_neg, Option.bind_some, Option.toList_some, Option.toList_none, List.cons_append, List.nil_append, l_0, l_1, l_m1, l_2, l_3, l_4, l_5, l_6, l_7, l_8, l_9, l_10, l_16, l_20, l_40, l_48, l_99, l_200, l_999, l_9999, li_73, li_78, li_m1000000, li_90, li_251, li_400, li_2400, li_91, li_153, li_173, li_96, li_32, li_92, li_12, li_93, li_80, li_14, li_1000000000, li_30, li_11, li_24, li_13, li_97, li_64, li_1600, li_49, li_255, li_2147483647, li_12345, li_1103515245, li_59, li_57, li_122, li_1023, li_1000000, li_52, li_51, li_50, li_47, li_46, li_45, li_44, li_43, li_42, li_41, li_39, li_38, li_37, li_36, li_35, li_34, li_33, li_29, li_28, li_27, li_26, li_25, li_23, li_22, li_21, li_19, li_18, li_17, li_15, li_m8, li_m2, li_60, li_54, li_2907, li_151, li_127, oN, iI_add, iI_sub, iI_mul, iI_neg, Int.reduceAdd, Int.reduceSub, Int.reduceMul, Int.reduceNeg, Int.toNat_natCast, Int.reduceToNat, iI_cl]
      · right
        rw [bI_f q] at e36
        refine ⟨(), fun j hj => ?_, ?_⟩
        · by_cases y : j = t
          · subst y; omega
          · exact hv j (by omega)
        · try dsimp only
          rw [cS, show kt K + ((t : Int) + 1) = kt K + t + 1 by omega, sg_137_32 (hb1 := by omega), CS_z h]
          simp (disch := first | omega | assumption | exact cat_n | exact cat_i _ | exact cat_r _ | (simp (disch := omega) only [l_0, l_1, l_m1, l_2, l_3, l_4, l_5, l_6, l_7, l_8, l_9, l_10, l_16, l_20, l_40, l_48, l_99, l_200, l_999, l_9999, li_73, li_78, li_m1000000, li_90, li_251, li_400, li_2400, li_91, li_153, li_173, li_96, li_32, li_92, li_12, li_93, li_80, li_14, li_1000000000, li_30, li_11, li_24, li_13, li_97, li_64, li_1600, li_49, li_255, li_2147483647, li_12345, li_1103515245, li_59, li_57, li_122, li_1023, li_1000000, li_52, li_51, li_50, li_47, li_46, li_45, li_44, li_43, li_42, li_41, li_39, li_38, li_37, li_36, li_35, li_34, li_33, li_29, li_28, li_27, li_26, li_25, li_23, li_22, li_21, li_19, li_18, li_17, li_15, li_m8, li_m2, li_60, li_54, li_2907, li_151, li_127, oN, iI_add, iI_sub, iI_mul, iI_neg, Int.reduceAdd, Int.reduceSub, Int.reduceMul, Int.reduceNeg, Int.toNat_natCast, Int.reduceToNat, iI_lt, iI_le, iI_eq, iI_cl, true_or, or_true, false_or, or_false, true_and, and_true, not_true_eq_false, not_false_eq_true]; first | done | omega)) only [↓if_pos, ↓if_neg, Option.bind_some, Option.toList_some, Option.toList_none, List.cons_append, List.nil_append, l_0, l_1, l_m1, l_2, l_3, l_4, l_5, l_6, l_7, l_8, l_9, l_10, l_16, l_20, l_40, l_48, l_99, l_200, l_999, l_9999, li_73, li_78, li_m1000000, li_90, li_251, li_400, li_2400, li_91, li_153, li_173, li_96, li_32, li_92, li_12, li_93, li_80, li_14, li_1000000000, li_30, li_11, li_24, li_13, li_97, li_64, li_1600, li_49, li_255, li_2147483647, li_12345, li_1103515245, li_59, li_57, li_122, li_1023, li_1000000, li_52, li_51, li_50, li_47, li_46, li_45, li_44, li_43, li_42, li_41, li_39, li_38, li_37, li_36, li_35, li_34, li_33, li_29, li_28, li_27, li_26, li_25, li_23, li_22, li_21, li_19, li_18, li_17, li_15, li_m8, li_m2, li_60, li_54, li_2907, li_151, li_127, oN, iI_add, iI_sub, iI_mul, iI_neg, Int.reduceAdd, Int.reduceSub, Int.reduceMul, Int.reduceNeg, Int.toNat_natCast, Int.reduceToNat, iI_cl, e36]
          rw [sg_137_44 (hb1 := by omega), tf, tg]
          rcases n1 with ⟨p1, p2⟩ | ⟨p1, p2⟩ <;> rcases n2 with ⟨p3, p4⟩ | ⟨p3, p4⟩ <;> rw [p2, p4] <;> simp (disch := first | omega | assumption | exact cat_n | exact cat_i _ | exact cat_r _ | (simp (disch := omega) only [l_0, l_1, l_m1, l_2, l_3, l_4, l_5, l_6, l_7, l_8, l_9, l_10, l_16, l_20, l_40, l_48, l_99, l_200, l_999, l_9999, li_73, li_78, li_m1000000, li_90, li_251, li_400, li_2400, li_91, li_153, li_173, li_96, li_32, li_92, li_12, li_93, li_80, li_14, li_1000000000, li_30, li_11, li_24, li_13, li_97, li_64, li_1600, li_49, li_255, li_2147483647, li_12345, li_1103515245, li_59, li_57, li_122, li_1023, li_1000000, li_52, li_51, li_50, li_47, li_46, li_45, li_44, li_43, li_42, li_41, li_39, li_38, li_37, li_36, li_35, li_34, li_33, li_29, li_28, li_27, li_26, li_25, li_23, li_22, li_21, li_19, li_18, li_17, li_15, li_m8, li_m2, li_60, li_54, li_2907, li_151, li_127, oN, iI_add, iI_sub, iI_mul, iI_neg, Int.reduceAdd, Int.reduceSub, Int.reduceMul, Int.reduceNeg, Int.toNat_natCast, Int.reduceToNat, iI_lt, iI_le, iI_eq, iI_cl, true_or, or_true, false_or, or_false, true_and, and_true, not_true_eq_false, not_false_eq_true]; first | done | omega)) only [↓if_pos, ↓if_neg, Option.bind_some, Option.toList_some, Option.toList_none, List.cons_append, List.nil_append, l_0, l_1, l_m1, l_2, l_3, l_4, l_5, l_6, l_7, l_8, l_9, l_10, l_16, l_20, l_40, l_48, l_99, l_200, l_999, l_9999, li_73, li_78, li_m1000000, li_90, li_251, li_400, li_2400, li_91, li_153, li_173, li_96, li_32, li_92, li_12, li_93, li_80, li_14, li_1000000000, li_30, li_11, li_24, li_13, li_97, li_64, li_1600, li_49, li_255, li_2147483647, li_12345, li_1103515245, li_59, li_57, li_122, li_1023, li_1000000, li_52, li_51, li_50, li_47, li_46, li_45, li_44, li_43, li_42, li_41, li_39, li_38, li_37, li_36, li_35, li_34, li_33, li_29, li_28, li_27, li_26, li_25, li_23, li_22, li_21, li_19, li_18, li_17, li_15, li_m8, li_m2, li_60, li_54, li_2907, li_151, li_127, oN, iI_add, iI_sub, iI_mul, iI_neg, Int.reduceAdd, Int.reduceSub, Int.reduceMul, Int.reduceNeg, Int.toNat_natCast, Int.reduceToNat, iI_cl]) (by
      intro _ hv
      rw [bI_f (fun ⟨t, t1, t2⟩ => by have := hv t t1; omega)]
      try dsimp only
      rw [sg_137_32 (hb1 := by omega)]
      simp (disch := first | omega | assumption | exact cat_n | exact cat_i _ | exact cat_r _ | (simp (disch := omega) only [l_0, l_1, l_m1, l_2, l_3, l_4, l_5, l_6, l_7, l_8, l_9, l_10, l_16, l_20, l_40, l_48, l_99, l_200, l_999, l_9999, li_73, li_78, li_m1000000, li_90, li_251, li_400, li_2400, li_91, li_153, li_173, li_96, li_32, li_92, li_12, li_93, li_80, li_14, li_1000000000, li_30, li_11, li_24, li_13, li_97, li_64, li_1600, li_49, li_255, li_2147483647, li_12345, li_1103515245, li_59, li_57, li_122, li_1023, li_1000000, li_52, li_51, li_50, li_47, li_46, li_45, li_44, li_43, li_42, li_41, li_39, li_38, li_37, li_36, li_35, li_34, li_33, li_29, li_28, li_27, li_26, li_25, li_23, li_22, li_21, li_19, li_18, li_17, li_15, li_m8, li_m2, li_60, li_54, li_2907, li_151, li_127, oN, iI_add, iI_sub, iI_mul, iI_neg, Int.reduceAdd, Int.reduceSub, Int.reduceMul, Int.reduceNeg, Int.toNat_natCast, Int.reduceToNat, iI_lt, iI_le, iI_eq, iI_cl, true_or, or_true, false_or, or_false, true_and, and_true, not_true_eq_false, not_false_eq_true]; first | done | omega)) only [↓if_pos, ↓if_neg, Option.bind_some, Option.toList_some, Option.toList_none, List.cons_append, List.nil_append, l_0, l_1, l_m1, l_2, l_3, l_4, l_5, l_6, l_7, l_8, l_9, l_10, l_16, l_20, l_40, l_48, l_99, l_200, l_999, l_9999, li_73, li_78, li_m1000000, li_90, li_251, li_400, li_2400, li_91, li_153, li_173, li_96, li_32, li_92, li_12, li_93, li_80, li_14, li_1000000000, li_30, li_11, li_24, li_13, li_97, li_64, li_1600, li_49, li_255, li_2147483647, li_12345, li_1103515245, li_59, li_57, li_122, li_1023, li_1000000, li_52, li_51, li_50, li_47, li_46, li_45, li_44, li_43, li_42, li_41, li_39, li_38, li_37, li_36, li_35, li_34, li_33, li_29, li_28, li_27, li_26, li_25, li_23, li_22, li_21, li_19, li_18, li_17, li_15, li_m8, li_m2, li_60, li_54, li_2907, li_151, li_127, oN, iI_add, iI_sub, iI_mul, iI_neg, Int.reduceAdd, Int.reduceSub, Int.reduceMul, Int.reduceNeg, Int.toNat_natCast, Int.reduceToNat, iI_cl]) () (fun j hj => by omega)
    try dsimp only at L
    rw [c0, Int.add_zero] at L
    exact L
  by_cases q : ps_off (kz K) f (kf K o)
  · have e38 := c_38t (X := X) (J := J) (b := 10) (o := o) (by omega) (by omega) ht.1 (CS_B h ho).1 (e := kz K) (by omega) (by omega) (by rw [hf, CS_r h ho]; exact q)
    rw [bd_10] at e38
    have l0 := LP 0 (by omega)
    rw [bI_f (fun ⟨t, t1, _⟩ => by omega), c0] at l0
    rw [bI_f (fun ⟨t, _, t2⟩ => by have := far_all okf okg (nr_off okf okg q) (kt K + t); omega)]
    rw [cl_137, sg_137_e0 (hb1 := by omega), CS_z h, e38]
    show am_ev X amP_137 7 _ [.int (iI 1)] (am_sh I J) = _
    rw [sg_137_7 (hb1 := by omega) (hw3 := cat_n) (hw4 := cat_n) (hw5 := cat_n) (hw6 := cat_n), CS_t h]
    simp (disch := first | omega | assumption | exact cat_n | exact cat_i _ | exact cat_r _ | (simp (disch := omega) only [l_0, l_1, l_m1, l_2, l_3, l_4, l_5, l_6, l_7, l_8, l_9, l_10, l_16, l_20, l_40, l_48, l_99, l_200, l_999, l_9999, li_73, li_78, li_m1000000, li_90, li_251, li_400, li_2400, li_91, li_153, li_173, li_96, li_32, li_92, li_12, li_93, li_80, li_14, li_1000000000, li_30, li_11, li_24, li_13, li_97, li_64, li_1600, li_49, li_255, li_2147483647, li_12345, li_1103515245, li_59, li_57, li_122, li_1023, li_1000000, li_52, li_51, li_50, li_47, li_46, li_45, li_44, li_43, li_42, li_41, li_39, li_38, li_37, li_36, li_35, li_34, li_33, li_29, li_28, li_27, li_26, li_25, li_23, li_22, li_21, li_19, li_18, li_17, li_15, li_m8, li_m2, li_60, li_54, li_2907, li_151, li_127, oN, iI_add, iI_sub, iI_mul, iI_neg, Int.reduceAdd, Int.reduceSub, Int.reduceMul, Int.reduceNeg, Int.toNat_natCast, Int.reduceToNat, iI_lt, iI_le, iI_eq, iI_cl, true_or, or_true, false_or, or_false, true_and, and_true, not_true_eq_false, not_false_eq_true]; first | done | omega)) only [↓if_pos, ↓if_neg, Option.bind_some, Option.toList_some, Option.toList_none, List.cons_append, List.nil_append, l_0, l_1, l_m1, l_2, l_3, l_4, l_5, l_6, l_7, l_8, l_9, l_10, l_16, l_20, l_40, l_48, l_99, l_200, l_999, l_9999, li_73, li_78, li_m1000000, li_90, li_251, li_400, li_2400, li_91, li_153, li_173, li_96, li_32, li_92, li_12, li_93, li_80, li_14, li_1000000000, li_30, li_11, li_24, li_13, li_97, li_64, li_1600, li_49, li_255, li_2147483647, li_12345, li_1103515245, li_59, li_57, li_122, li_1023, li_1000000, li_52, li_51, li_50, li_47, li_46, li_45, li_44, li_43, li_42, li_41, li_39, li_38, li_37, li_36, li_35, li_34, li_33, li_29, li_28, li_27, li_26, li_25, li_23, li_22, li_21, li_19, li_18, li_17, li_15, li_m8, li_m2, li_60, li_54, li_2907, li_151, li_127, oN, iI_add, iI_sub, iI_mul, iI_neg, Int.reduceAdd, Int.reduceSub, Int.reduceMul, Int.reduceNeg, Int.toNat_natCast, Int.reduceToNat, iI_cl, e30f]
    rw [sg_137_23 (hb1 := by omega) (hw4 := cat_n) (hw5 := cat_n) (hw6 := cat_n), CS_t h]
    simp (disch := first | omega | assumption | exact cat_n | exact cat_i _ | exact cat_r _ | (simp (disch := omega) only [l_0, l_1, l_m1, l_2, l_3, l_4, l_5, l_6, l_7, l_8, l_9, l_10, l_16, l_20, l_40, l_48, l_99, l_200, l_999, l_9999, li_73, li_78, li_m1000000, li_90, li_251, li_400, li_2400, li_91, li_153, li_173, li_96, li_32, li_92, li_12, li_93, li_80, li_14, li_1000000000, li_30, li_11, li_24, li_13, li_97, li_64, li_1600, li_49, li_255, li_2147483647, li_12345, li_1103515245, li_59, li_57, li_122, li_1023, li_1000000, li_52, li_51, li_50, li_47, li_46, li_45, li_44, li_43, li_42, li_41, li_39, li_38, li_37, li_36, li_35, li_34, li_33, li_29, li_28, li_27, li_26, li_25, li_23, li_22, li_21, li_19, li_18, li_17, li_15, li_m8, li_m2, li_60, li_54, li_2907, li_151, li_127, oN, iI_add, iI_sub, iI_mul, iI_neg, Int.reduceAdd, Int.reduceSub, Int.reduceMul, Int.reduceNeg, Int.toNat_natCast, Int.reduceToNat, iI_lt, iI_le, iI_eq, iI_cl, true_or, or_true, false_or, or_false, true_and, and_true, not_true_eq_false, not_false_eq_true]; first | done | omega)) only [↓if_pos, ↓if_neg, Option.bind_some, Option.toList_some, Option.toList_none, List.cons_append, List.nil_append, l_0, l_1, l_m1, l_2, l_3, l_4, l_5, l_6, l_7, l_8, l_9, l_10, l_16, l_20, l_40, l_48, l_99, l_200, l_999, l_9999, li_73, li_78, li_m1000000, li_90, li_251, li_400, li_2400, li_91, li_153, li_173, li_96, li_32, li_92, li_12, li_93, li_80, li_14, li_1000000000, li_30, li_11, li_24, li_13, li_97, li_64, li_1600, li_49, li_255, li_2147483647, li_12345, li_1103515245, li_59, li_57, li_122, li_1023, li_1000000, li_52, li_51, li_50, li_47, li_46, li_45, li_44, li_43, li_42, li_41, li_39, li_38, li_37, li_36, li_35, li_34, li_33, li_29, li_28, li_27, li_26, li_25, li_23, li_22, li_21, li_19, li_18, li_17, li_15, li_m8, li_m2, li_60, li_54, li_2907, li_151, li_127, oN, iI_add, iI_sub, iI_mul, iI_neg, Int.reduceAdd, Int.reduceSub, Int.reduceMul, Int.reduceNeg, Int.toNat_natCast, Int.reduceToNat, iI_cl, e30g]
    rw [sg_137_29 (hb1 := by omega) (hw5 := cat_n) (hw6 := cat_n)]
    simp (disch := first | omega | assumption | exact cat_n | exact cat_i _ | exact cat_r _ | (simp (disch := omega) only [l_0, l_1, l_m1, l_2, l_3, l_4, l_5, l_6, l_7, l_8, l_9, l_10, l_16, l_20, l_40, l_48, l_99, l_200, l_999, l_9999, li_73, li_78, li_m1000000, li_90, li_251, li_400, li_2400, li_91, li_153, li_173, li_96, li_32, li_92, li_12, li_93, li_80, li_14, li_1000000000, li_30, li_11, li_24, li_13, li_97, li_64, li_1600, li_49, li_255, li_2147483647, li_12345, li_1103515245, li_59, li_57, li_122, li_1023, li_1000000, li_52, li_51, li_50, li_47, li_46, li_45, li_44, li_43, li_42, li_41, li_39, li_38, li_37, li_36, li_35, li_34, li_33, li_29, li_28, li_27, li_26, li_25, li_23, li_22, li_21, li_19, li_18, li_17, li_15, li_m8, li_m2, li_60, li_54, li_2907, li_151, li_127, oN, iI_add, iI_sub, iI_mul, iI_neg, Int.reduceAdd, Int.reduceSub, Int.reduceMul, Int.reduceNeg, Int.toNat_natCast, Int.reduceToNat, iI_lt, iI_le, iI_eq, iI_cl, true_or, or_true, false_or, or_false, true_and, and_true, not_true_eq_false, not_false_eq_true]; first | done | omega)) only [↓if_pos, ↓if_neg, Option.bind_some, Option.toList_some, Option.toList_none, List.cons_append, List.nil_append, l_0, l_1, l_m1, l_2, l_3, l_4, l_5, l_6, l_7, l_8, l_9, l_10, l_16, l_20, l_40, l_48, l_99, l_200, l_999, l_9999, li_73, li_78, li_m1000000, li_90, li_251, li_400, li_2400, li_91, li_153, li_173, li_96, li_32, li_92, li_12, li_93, li_80, li_14, li_1000000000, li_30, li_11, li_24, li_13, li_97, li_64, li_1600, li_49, li_255, li_2147483647, li_12345, li_1103515245, li_59, li_57, li_122, li_1023, li_1000000, li_52, li_51, li_50, li_47, li_46, li_45, li_44, li_43, li_42, li_41, li_39, li_38, li_37, li_36, li_35, li_34, li_33, li_29, li_28, li_27, li_26, li_25, li_23, li_22, li_21, li_19, li_18, li_17, li_15, li_m8, li_m2, li_60, li_54, li_2907, li_151, li_127, oN, iI_add, iI_sub, iI_mul, iI_neg, Int.reduceAdd, Int.reduceSub, Int.reduceMul, Int.reduceNeg, Int.toNat_natCast, Int.reduceToNat, iI_cl, l0]
  · have e38 := c_38f (X := X) (J := J) (b := 10) (o := o) (by omega) (by omega) ht.1 (CS_B h ho).1 (e := kz K) (by omega) (by omega) (by rw [hf, CS_r h ho]; exact q)
    have e40 := c_40 (X := X) (J := J) (b := 10) (o := o) (by omega) (by omega) ht.1 (CS_B h ho).1 ht.2.1 (CS_B h ho).2.1
    rw [hf, CS_r h ho, bd_10] at e40
    rw [bd_10] at e38
    obtain ⟨N, hN⟩ : ∃ N : Nat, min u (ps_cy f (kf K o) : Int) = N := ⟨(min u (ps_cy f (kf K o) : Int)).toNat, by omega⟩
    have l0 := LP N (by omega)
    rw [c0] at l0
    have hcyb : ps_cy f (kf K o) ≤ 2304 := hcy.2
    have em : (∃ t : Nat, t < N ∧ ps_far f (kf K o) (kt K + t) ≤ kz K * kz K) ↔ mt_ K f (kf K o) u := by
      constructor
      · rintro ⟨t, t1, t2⟩
        exact ⟨t, by omega, t2⟩
      · rintro ⟨t, t1, t2⟩
        by_cases y : (u : Int) ≤ ps_cy f (kf K o)
        · exact ⟨t, by omega, t2⟩
        · have g1 := Int.emod_nonneg (t : Int) (show (ps_cy f (kf K o) : Int) ≠ 0 by omega)
          have g2 := Int.emod_lt_of_pos (t : Int) (show 0 < (ps_cy f (kf K o) : Int) by omega)
          refine ⟨((t : Int) % (ps_cy f (kf K o) : Int)).toNat, by omega, ?_⟩
          have e1 := far_cy okf okg (kt K + t)
          have e2 := far_cy okf okg (kt K + (t : Int) % (ps_cy f (kf K o) : Int))
          rw [Int.add_emod_emod, e1] at e2
          rw [show ((((t : Int) % (ps_cy f (kf K o) : Int)).toNat : Nat) : Int) = (t : Int) % (ps_cy f (kf K o) : Int) by omega, ← e2]
          exact t2
    rw [bI_cg em] at l0
    rw [cl_137, sg_137_e0 (hb1 := by omega), CS_z h, e38]
    show am_ev X amP_137 7 _ [.int (iI 0)] (am_sh I J) = _
    rw [sg_137_7 (hb1 := by omega) (hw3 := cat_n) (hw4 := cat_n) (hw5 := cat_n) (hw6 := cat_n)]
    simp (disch := first | omega | assumption | exact cat_n | exact cat_i _ | exact cat_r _ | (simp (disch := omega) only [l_0, l_1, l_m1, l_2, l_3, l_4, l_5, l_6, l_7, l_8, l_9, l_10, l_16, l_20, l_40, l_48, l_99, l_200, l_999, l_9999, li_73, li_78, li_m1000000, li_90, li_251, li_400, li_2400, li_91, li_153, li_173, li_96, li_32, li_92, li_12, li_93, li_80, li_14, li_1000000000, li_30, li_11, li_24, li_13, li_97, li_64, li_1600, li_49, li_255, li_2147483647, li_12345, li_1103515245, li_59, li_57, li_122, li_1023, li_1000000, li_52, li_51, li_50, li_47, li_46, li_45, li_44, li_43, li_42, li_41, li_39, li_38, li_37, li_36, li_35, li_34, li_33, li_29, li_28, li_27, li_26, li_25, li_23, li_22, li_21, li_19, li_18, li_17, li_15, li_m8, li_m2, li_60, li_54, li_2907, li_151, li_127, oN, iI_add, iI_sub, iI_mul, iI_neg, Int.reduceAdd, Int.reduceSub, Int.reduceMul, Int.reduceNeg, Int.toNat_natCast, Int.reduceToNat, iI_lt, iI_le, iI_eq, iI_cl, true_or, or_true, false_or, or_false, true_and, and_true, not_true_eq_false, not_false_eq_true]; first | done | omega)) only [↓if_pos, ↓if_neg, Option.bind_some, Option.toList_some, Option.toList_none, List.cons_append, List.nil_append, l_0, l_1, l_m1, l_2, l_3, l_4, l_5, l_6, l_7, l_8, l_9, l_10, l_16, l_20, l_40, l_48, l_99, l_200, l_999, l_9999, li_73, li_78, li_m1000000, li_90, li_251, li_400, li_2400, li_91, li_153, li_173, li_96, li_32, li_92, li_12, li_93, li_80, li_14, li_1000000000, li_30, li_11, li_24, li_13, li_97, li_64, li_1600, li_49, li_255, li_2147483647, li_12345, li_1103515245, li_59, li_57, li_122, li_1023, li_1000000, li_52, li_51, li_50, li_47, li_46, li_45, li_44, li_43, li_42, li_41, li_39, li_38, li_37, li_36, li_35, li_34, li_33, li_29, li_28, li_27, li_26, li_25, li_23, li_22, li_21, li_19, li_18, li_17, li_15, li_m8, li_m2, li_60, li_54, li_2907, li_151, li_127, oN, iI_add, iI_sub, iI_mul, iI_neg, Int.reduceAdd, Int.reduceSub, Int.reduceMul, Int.reduceNeg, Int.toNat_natCast, Int.reduceToNat, iI_cl, e40]
    rw [sg_137_15 (hb1 := by omega) (hw3 := cat_n) (hw4 := cat_n) (hw5 := cat_n) (hw6 := cat_n)]
    simp (disch := first | omega | assumption | exact cat_n | exact cat_i _ | exact cat_r _ | (simp (disch := omega) only [l_0, l_1, l_m1, l_2, l_3, l_4, l_5, l_6, l_7, l_8, l_9, l_10, l_16, l_20, l_40, l_48, l_99, l_200, l_999, l_9999, li_73, li_78, li_m1000000, li_90, li_251, li_400, li_2400, li_91, li_153, li_173, li_96, li_32, li_92, li_12, li_93, li_80, li_14, li_1000000000, li_30, li_11, li_24, li_13, li_97, li_64, li_1600, li_49, li_255, li_2147483647, li_12345, li_1103515245, li_59, li_57, li_122, li_1023, li_1000000, li_52, li_51, li_50, li_47, li_46, li_45, li_44, li_43, li_42, li_41, li_39, li_38, li_37, li_36, li_35, li_34, li_33, li_29, li_28, li_27, li_26, li_25, li_23, li_22, li_21, li_19, li_18, li_17, li_15, li_m8, li_m2, li_60, li_54, li_2907, li_151, li_127, oN, iI_add, iI_sub, iI_mul, iI_neg, Int.reduceAdd, Int.reduceSub, Int.reduceMul, Int.reduceNeg, Int.toNat_natCast, Int.reduceToNat, iI_lt, iI_le, iI_eq, iI_cl, true_or, or_true, false_or, or_false, true_and, and_true, not_true_eq_false, not_false_eq_true]; first | done | omega)) only [↓if_pos, ↓if_neg, Option.bind_some, Option.toList_some, Option.toList_none, List.cons_append, List.nil_append, l_0, l_1, l_m1, l_2, l_3, l_4, l_5, l_6, l_7, l_8, l_9, l_10, l_16, l_20, l_40, l_48, l_99, l_200, l_999, l_9999, li_73, li_78, li_m1000000, li_90, li_251, li_400, li_2400, li_91, li_153, li_173, li_96, li_32, li_92, li_12, li_93, li_80, li_14, li_1000000000, li_30, li_11, li_24, li_13, li_97, li_64, li_1600, li_49, li_255, li_2147483647, li_12345, li_1103515245, li_59, li_57, li_122, li_1023, li_1000000, li_52, li_51, li_50, li_47, li_46, li_45, li_44, li_43, li_42, li_41, li_39, li_38, li_37, li_36, li_35, li_34, li_33, li_29, li_28, li_27, li_26, li_25, li_23, li_22, li_21, li_19, li_18, li_17, li_15, li_m8, li_m2, li_60, li_54, li_2907, li_151, li_127, oN, iI_add, iI_sub, iI_mul, iI_neg, Int.reduceAdd, Int.reduceSub, Int.reduceMul, Int.reduceNeg, Int.toNat_natCast, Int.reduceToNat, iI_cl, c_353, hN]
    rw [sg_137_16 (hb1 := by omega) (hw3 := cat_n) (hw4 := cat_n) (hw5 := cat_n) (hw6 := cat_n), CS_t h]
    simp (disch := first | omega | assumption | exact cat_n | exact cat_i _ | exact cat_r _ | (simp (disch := omega) only [l_0, l_1, l_m1, l_2, l_3, l_4, l_5, l_6, l_7, l_8, l_9, l_10, l_16, l_20, l_40, l_48, l_99, l_200, l_999, l_9999, li_73, li_78, li_m1000000, li_90, li_251, li_400, li_2400, li_91, li_153, li_173, li_96, li_32, li_92, li_12, li_93, li_80, li_14, li_1000000000, li_30, li_11, li_24, li_13, li_97, li_64, li_1600, li_49, li_255, li_2147483647, li_12345, li_1103515245, li_59, li_57, li_122, li_1023, li_1000000, li_52, li_51, li_50, li_47, li_46, li_45, li_44, li_43, li_42, li_41, li_39, li_38, li_37, li_36, li_35, li_34, li_33, li_29, li_28, li_27, li_26, li_25, li_23, li_22, li_21, li_19, li_18, li_17, li_15, li_m8, li_m2, li_60, li_54, li_2907, li_151, li_127, oN, iI_add, iI_sub, iI_mul, iI_neg, Int.reduceAdd, Int.reduceSub, Int.reduceMul, Int.reduceNeg, Int.toNat_natCast, Int.reduceToNat, iI_lt, iI_le, iI_eq, iI_cl, true_or, or_true, false_or, or_false, true_and, and_true, not_true_eq_false, not_false_eq_true]; first | done | omega)) only [↓if_pos, ↓if_neg, Option.bind_some, Option.toList_some, Option.toList_none, List.cons_append, List.nil_append, l_0, l_1, l_m1, l_2, l_3, l_4, l_5, l_6, l_7, l_8, l_9, l_10, l_16, l_20, l_40, l_48, l_99, l_200, l_999, l_9999, li_73, li_78, li_m1000000, li_90, li_251, li_400, li_2400, li_91, li_153, li_173, li_96, li_32, li_92, li_12, li_93, li_80, li_14, li_1000000000, li_30, li_11, li_24, li_13, li_97, li_64, li_1600, li_49, li_255, li_2147483647, li_12345, li_1103515245, li_59, li_57, li_122, li_1023, li_1000000, li_52, li_51, li_50, li_47, li_46, li_45, li_44, li_43, li_42, li_41, li_39, li_38, li_37, li_36, li_35, li_34, li_33, li_29, li_28, li_27, li_26, li_25, li_23, li_22, li_21, li_19, li_18, li_17, li_15, li_m8, li_m2, li_60, li_54, li_2907, li_151, li_127, oN, iI_add, iI_sub, iI_mul, iI_neg, Int.reduceAdd, Int.reduceSub, Int.reduceMul, Int.reduceNeg, Int.toNat_natCast, Int.reduceToNat, iI_cl, e30f]
    rw [sg_137_23 (hb1 := by omega) (hw4 := cat_n) (hw5 := cat_n) (hw6 := cat_n), CS_t h]
    simp (disch := first | omega | assumption | exact cat_n | exact cat_i _ | exact cat_r _ | (simp (disch := omega) only [l_0, l_1, l_m1, l_2, l_3, l_4, l_5, l_6, l_7, l_8, l_9, l_10, l_16, l_20, l_40, l_48, l_99, l_200, l_999, l_9999, li_73, li_78, li_m1000000, li_90, li_251, li_400, li_2400, li_91, li_153, li_173, li_96, li_32, li_92, li_12, li_93, li_80, li_14, li_1000000000, li_30, li_11, li_24, li_13, li_97, li_64, li_1600, li_49, li_255, li_2147483647, li_12345, li_1103515245, li_59, li_57, li_122, li_1023, li_1000000, li_52, li_51, li_50, li_47, li_46, li_45, li_44, li_43, li_42, li_41, li_39, li_38, li_37, li_36, li_35, li_34, li_33, li_29, li_28, li_27, li_26, li_25, li_23, li_22, li_21, li_19, li_18, li_17, li_15, li_m8, li_m2, li_60, li_54, li_2907, li_151, li_127, oN, iI_add, iI_sub, iI_mul, iI_neg, Int.reduceAdd, Int.reduceSub, Int.reduceMul, Int.reduceNeg, Int.toNat_natCast, Int.reduceToNat, iI_lt, iI_le, iI_eq, iI_cl, true_or, or_true, false_or, or_false, true_and, and_true, not_true_eq_false, not_false_eq_true]; first | done | omega)) only [↓if_pos, ↓if_neg, Option.bind_some, Option.toList_some, Option.toList_none, List.cons_append, List.nil_append, l_0, l_1, l_m1, l_2, l_3, l_4, l_5, l_6, l_7, l_8, l_9, l_10, l_16, l_20, l_40, l_48, l_99, l_200, l_999, l_9999, li_73, li_78, li_m1000000, li_90, li_251, li_400, li_2400, li_91, li_153, li_173, li_96, li_32, li_92, li_12, li_93, li_80, li_14, li_1000000000, li_30, li_11, li_24, li_13, li_97, li_64, li_1600, li_49, li_255, li_2147483647, li_12345, li_1103515245, li_59, li_57, li_122, li_1023, li_1000000, li_52, li_51, li_50, li_47, li_46, li_45, li_44, li_43, li_42, li_41, li_39, li_38, li_37, li_36, li_35, li_34, li_33, li_29, li_28, li_27, li_26, li_25, li_23, li_22, li_21, li_19, li_18, li_17, li_15, li_m8, li_m2, li_60, li_54, li_2907, li_151, li_127, oN, iI_add, iI_sub, iI_mul, iI_neg, Int.reduceAdd, Int.reduceSub, Int.reduceMul, Int.reduceNeg, Int.toNat_natCast, Int.reduceToNat, iI_cl, e30g]
    rw [sg_137_29 (hb1 := by omega) (hw5 := cat_n) (hw6 := cat_n)]
    simp (disch := first | omega | assumption | exact cat_n | exact cat_i _ | exact cat_r _ | (simp (disch := omega) only [l_0, l_1, l_m1, l_2, l_3, l_4, l_5, l_6, l_7, l_8, l_9, l_10, l_16, l_20, l_40, l_48, l_99, l_200, l_999, l_9999, li_73, li_78, li_m1000000, li_90, li_251, li_400, li_2400, li_91, li_153, li_173, li_96, li_32, li_92, li_12, li_93, li_80, li_14, li_1000000000, li_30, li_11, li_24, li_13, li_97, li_64, li_1600, li_49, li_255, li_2147483647, li_12345, li_1103515245, li_59, li_57, li_122, li_1023, li_1000000, li_52, li_51, li_50, li_47, li_46, li_45, li_44, li_43, li_42, li_41, li_39, li_38, li_37, li_36, li_35, li_34, li_33, li_29, li_28, li_27, li_26, li_25, li_23, li_22, li_21, li_19, li_18, li_17, li_15, li_m8, li_m2, li_60, li_54, li_2907, li_151, li_127, oN, iI_add, iI_sub, iI_mul, iI_neg, Int.reduceAdd, Int.reduceSub, Int.reduceMul, Int.reduceNeg, Int.toNat_natCast, Int.reduceToNat, iI_lt, iI_le, iI_eq, iI_cl, true_or, or_true, false_or, or_false, true_and, and_true, not_true_eq_false, not_false_eq_true]; first | done | omega)) only [↓if_pos, ↓if_neg, Option.bind_some, Option.toList_some, Option.toList_none, List.cons_append, List.nil_append, l_0, l_1, l_m1, l_2, l_3, l_4, l_5, l_6, l_7, l_8, l_9, l_10, l_16, l_20, l_40, l_48, l_99, l_200, l_999, l_9999, li_73, li_78, li_m1000000, li_90, li_251, li_400, li_2400, li_91, li_153, li_173, li_96, li_32, li_92, li_12, li_93, li_80, li_14, li_1000000000, li_30, li_11, li_24, li_13, li_97, li_64, li_1600, li_49, li_255, li_2147483647, li_12345, li_1103515245, li_59, li_57, li_122, li_1023, li_1000000, li_52, li_51, li_50, li_47, li_46, li_45, li_44, li_43, li_42, li_41, li_39, li_38, li_37, li_36, li_35, li_34, li_33, li_29, li_28, li_27, li_26, li_25, li_23, li_22, li_21, li_19, li_18, li_17, li_15, li_m8, li_m2, li_60, li_54, li_2907, li_151, li_127, oN, iI_add, iI_sub, iI_mul, iI_neg, Int.reduceAdd, Int.reduceSub, Int.reduceMul, Int.reduceNeg, Int.toNat_natCast, Int.reduceToNat, iI_cl, l0]
end S9m
