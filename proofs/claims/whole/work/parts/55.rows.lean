/-! ANOTHER ROW of a body: the model's sets and lays, and its phases -/
/-- a row with another number -/
def rs (f : Nat → Int) (k : Nat) (v : Int) : Nat → Int := fun j => if j = k then v else f j
section KS
variable {K : Sk} {b o : Nat} {f : Nat → Int}
theorem ks_n : kn (ks K b f) = kn K := rfl
theorem ks_e : ke (ks K b f) = ke K := rfl
theorem ks_z : kz (ks K b f) = kz K := rfl
theorem ks_t : kt (ks K b f) = kt K := rfl
theorem ks_b : kf (ks K b f) b = f := by show (if b = b then f else _) = f; rw [if_pos rfl]
theorem ks_o (h : o ≠ b) : kf (ks K b f) o = kf K o := by show (if o = b then f else kf K o) = _; rw [if_neg h]
theorem ks_ks {g : Nat → Int} : ks (ks K b f) b g = ks K b g := by
  unfold ks
  congr 2
  funext c
  by_cases e : c = b
  · rw [if_pos e, if_pos e]
  · rw [if_neg e, if_neg e]
    show (if c = b then f else _) = _
    rw [if_neg e]
theorem ks_id : ks K b (kf K b) = K := by
  unfold ks
  obtain ⟨n, F, e, z, t⟩ := K
  show (n, (fun c => if c = b then F b else F c), e, z, t) = _
  congr 2
  funext c
  by_cases h : c = b
  · rw [if_pos h, h]
  · rw [if_neg h]
theorem ks_ok (h : Kok K) (ok : ps_ok f) : Kok (ks K b f) := by
  refine ⟨h.1, fun o ho => ?_, h.2.2⟩
  by_cases e : o = b
  · rw [e, ks_b]; exact ok
  · rw [ks_o e]; exact K_f h ho
theorem ks_com {c : Nat} {g : Nat → Int} (h : b ≠ c) : ks (ks K b f) c g = ks (ks K c g) b f := by
  unfold ks
  congr 2
  funext o
  show (if o = c then g else if o = b then f else _) = (if o = b then f else if o = c then g else _)
  by_cases e : o = c
  · rw [if_pos e, if_neg (by omega), if_pos e]
  · rw [if_neg e, if_neg e]
end KS
section S55
variable {X : am_X} {K : Sk} {I : Nat → Nat → Int32} {J : Nat → Nat → Int64} {a b o : Nat} {f : Nat → Int}
/-- what laying a body may write -/
def W_k (c k : Nat) : Bool := Nat.beq c 150 || (Nat.beq c 148 && Nat.ble 3 k && Nat.ble k 72)
theorem Wk_n {c k : Nat} (h : W_n c k = false) : W_k c k = false := by
  cases q : W_k c k with
  | false => rfl
  | true =>
    unfold W_k at q
    simp only [Bool.or_eq_true, Bool.and_eq_true, Nat.beq_eq, Nat.ble_eq] at q
    rcases q with q | ⟨⟨q1, q2⟩, q3⟩
    · subst q
      cases h
    · subst q1
      unfold W_n at h
      have e1 : Nat.ble 3 k = true := by rw [Nat.ble_eq]; exact q2
      have e2 : Nat.ble k 72 = true := by rw [Nat.ble_eq]; exact q3
      rw [e1, e2] at h
      cases h
theorem Fr_kn {I' : Nat → Nat → Int32} (h : Fr W_k I I') : Fr W_n I I' := fun c k q => h c k (Wk_n q)
theorem Wk_at {c k : Nat} (h : W_k c k = false) : c ≠ 150 ∧ ¬ (c = 148 ∧ 3 ≤ k ∧ k ≤ 72) := by
  unfold W_k at h
  rw [Bool.or_eq_false_iff] at h
  refine ⟨fun z => ?_, fun z => ?_⟩
  · subst z; cases h.1
  · obtain ⟨rfl, z1, z2⟩ := z
    have e1 : Nat.ble 3 k = true := by rw [Nat.ble_eq]; exact z1
    have e2 : Nat.ble k 72 = true := by rw [Nat.ble_eq]; exact z2
    rw [e1, e2] at h
    cases h.2
/-- the model's row of b has become f, its places not yet -/
def MP (K : Sk) (b : Nat) (f : Nat → Int) (I : Nat → Nat → Int32) : Prop := (Kok K ∧ ps_ok f ∧ b < kn K) ∧ (I 139 1 = iI (kn K) ∧ I 139 2 = iI (kz K) ∧ I 148 0 = iI (ke K) ∧ I 148 1 = iI (kt K)) ∧ mr I b = f ∧ ∀ o, o < kn K → o ≠ b → mr I o = kf K o ∧ mg I o
theorem n_lay (h : MP K b f I) : ∃ I' : Nat → Nat → Int32, am_do X 247 [.ref 139, .int (iI b)] (am_sh I J) = some (none, am_sh I' J) ∧ Fr W_k I I' ∧ MS (ks K b f) I' := by
  obtain ⟨⟨h1, h2, h3⟩, h4, h5, h6⟩ := h
  have hn := K_n h1
  obtain ⟨I', e1, e2, e3, e4⟩ := n_247 (X := X) (J := J) h5 h2 (by omega)
  have hF : Fr W_k I I' := fun c k q => e2 c k (fun z => (Wk_at q).1 z.1)
  refine ⟨I', e1, hF, ks_ok h1 h2, ?_, fun o ho => ?_⟩
  · rw [ks_n, ks_z, ks_e, ks_t, e2 _ _ (by omega), e2 _ _ (by omega), e2 _ _ (by omega), e2 _ _ (by omega)]
    exact h4
  · by_cases e : o = b
    · rw [e, ks_b]
      exact ⟨e3, e4⟩
    · rw [ks_o e]
      obtain ⟨x1, x2⟩ := h6 o ho e
      have er : mr I' o = mr I o := mr_congr (fun k => e2 _ _ (by omega)) (fun k => e2 _ _ (by omega)) (fun k => e2 _ _ (by omega))
      refine ⟨er.trans x1, ?_⟩
      unfold mg at x2 ⊢
      rw [er]
      intro t ht
      rw [x1] at ht
      have hT := (K_rg h1 ho).2.1
      have ho2 : o < kn K := ho
      rw [e2 _ _ (by omega), e2 _ _ (by omega), e2 _ _ (by omega), e2 _ _ (by omega)]
      exact x2 t (by rw [x1]; exact ht)
/-- where a number of a row lies: LOW, HIGH, PHASE, LIFT, TILT, FUEL, UP -/
def wh (k : Nat) : Nat := if k = 0 then 0 else if k = 1 then 1 else if k = 2 then 3 else if k = 3 then 4 else if k = 4 then 5 else if k = 5 then 7 else 8
theorem mr_set (hb : b < 10) {k : Nat} (hk : k < 7) {v : Int} (v1 : -2147483648 ≤ v) (v2 : v < 2147483648) : mr (am_up I 148 (7 * b + 3 + k) (iI v)) b = rs (mr I b) (wh k) v := by
  funext j
  unfold mr mrw rs
  have e140 : ∀ x, am_up I 148 (7 * b + 3 + k) (iI v) 140 x = I 140 x := fun x => by rw [up_c (show 140 ≠ 148 by omega)]
  have e141 : ∀ x, am_up I 148 (7 * b + 3 + k) (iI v) 141 x = I 141 x := fun x => by rw [up_c (show 141 ≠ 148 by omega)]
  have e : ∀ x, am_up I 148 (7 * b + 3 + k) (iI v) 148 x = if x = 7 * b + 3 + k then iI v else I 148 x := fun x => by
    by_cases q : x = 7 * b + 3 + k
    · rw [q, up_at, if_pos rfl]
    · rw [up_k q, if_neg q]
  simp only [e, e140, e141]
  have hv := to_iI v1 v2
  rcases (by omega : k = 0 ∨ k = 1 ∨ k = 2 ∨ k = 3 ∨ k = 4 ∨ k = 5 ∨ k = 6) with rfl | rfl | rfl | rfl | rfl | rfl | rfl
  · show _ = if j = 0 then v else _
    by_cases q : j = 0
    · subst q; simp [hv]
    · simp [q]
  · show _ = if j = 1 then v else _
    by_cases q : j = 1
    · subst q; simp [hv]
    · simp [q]
  · show _ = if j = 3 then v else _
    by_cases q : j = 3
    · subst q; simp [hv]
    · simp [q]
  · show _ = if j = 4 then v else _
    by_cases q : j = 4
    · subst q; simp [hv]
    · simp [q]
  · show _ = if j = 5 then v else _
    by_cases q : j = 5
    · subst q; simp [hv]
    · simp [q]
  · show _ = if j = 7 then v else _
    by_cases q : j = 7
    · subst q; simp [hv]
    · simp [q]
  · show _ = if j = 8 then v else _
    by_cases q : j = 8
    · subst q; simp [hv]
    · simp [q]
theorem mr_oth (hb : b < 10) {k : Nat} (hk : k < 7) (hob : o ≠ b) {v : Int32} : mr (am_up I 148 (7 * b + 3 + k) v) o = mr I o := by
  have e140 : ∀ x, am_up I 148 (7 * b + 3 + k) v 140 x = I 140 x := fun x => by rw [up_c (show 140 ≠ 148 by omega)]
  have e141 : ∀ x, am_up I 148 (7 * b + 3 + k) v 141 x = I 141 x := fun x => by rw [up_c (show 141 ≠ 148 by omega)]
  have e : ∀ x, x < 7 → am_up I 148 (7 * b + 3 + k) v 148 (7 * o + 3 + x) = I 148 (7 * o + 3 + x) := fun x hx => up_k (by omega)
  have e0 := e 0 (by omega)
  have e1 := e 1 (by omega)
  have e2 := e 2 (by omega)
  have e3 := e 3 (by omega)
  have e4 := e 4 (by omega)
  have e5 := e 5 (by omega)
  have e6 := e 6 (by omega)
  simp only [Nat.add_assoc, Nat.reduceAdd] at e0 e1 e2 e3 e4 e5 e6 e140 e141
  unfold mr mrw
  simp only [e140, e141, Nat.add_assoc, e0, e1, e2, e3, e4, e5, e6]
theorem c_242 (hb : b < 10) {k : Nat} (hk : k < 7) {v : Int32} : am_do X 242 [.ref 139, .int (iI b), .int (iI k), .int v] (am_sh I J) = some (none, am_sh (am_up I 148 (7 * b + 3 + k) v) J) := by
  have e : (3 + 7 * (b : Int) + (k : Int)).toNat = 7 * b + 3 + k := by omega
  simp (disch := first | omega | assumption | exact cat_n | exact cat_i _ | exact cat_r _ | (simp (disch := omega) only [l_0, l_1, l_m1, l_2, l_3, l_4, l_5, l_6, l_7, l_8, l_9, l_10, l_16, l_20, l_40, l_48, l_99, l_200, l_999, l_9999, li_73, li_78, li_m1000000, li_90, li_251, li_400, li_2400, li_91, li_153, li_173, li_96, li_32, li_92, li_12, li_93, li_80, li_14, li_1000000000, li_30, li_11, li_24, li_13, li_97, li_64, li_1600, li_49, li_255, li_2147483647, li_12345, li_1103515245, li_59, li_57, li_122, li_1023, li_1000000, li_52, li_51, li_50, li_47, li_46, li_45, li_44, li_43, li_42, li_41, li_39, li_38, li_37, li_36, li_35, li_34, li_33, li_29, li_28, li_27, li_26, li_25, li_23, li_22, li_21, li_19, li_18, li_17, li_15, li_m8, li_m2, li_60, li_54, li_2907, li_151, li_127, oN, iI_add, iI_sub, iI_mul, iI_neg, Int.reduceAdd, Int.reduceSub, Int.reduceMul, Int.reduceNeg, Int.toNat_natCast, iI_lt, iI_le, iI_eq, iI_cl, true_or, or_true, false_or, or_false, true_and, and_true, not_true_eq_false, not_false_eq_true]; first | done | omega)) only [↓if_pos, ↓if_neg, Option.bind_some, Option.toList_some, Option.toList_none, List.cons_append, List.nil_append, l_0, l_1, l_m1, l_2, l_3, l_4, l_5, l_6, l_7, l_8, l_9, l_10, l_16, l_20, l_40, l_48, l_99, l_200, l_999, l_9999, li_73, li_78, li_m1000000, li_90, li_251, li_400, li_2400, li_91, li_153, li_173, li_96, li_32, li_92, li_12, li_93, li_80, li_14, li_1000000000, li_30, li_11, li_24, li_13, li_97, li_64, li_1600, li_49, li_255, li_2147483647, li_12345, li_1103515245, li_59, li_57, li_122, li_1023, li_1000000, li_52, li_51, li_50, li_47, li_46, li_45, li_44, li_43, li_42, li_41, li_39, li_38, li_37, li_36, li_35, li_34, li_33, li_29, li_28, li_27, li_26, li_25, li_23, li_22, li_21, li_19, li_18, li_17, li_15, li_m8, li_m2, li_60, li_54, li_2907, li_151, li_127, oN, iI_add, iI_sub, iI_mul, iI_neg, Int.reduceAdd, Int.reduceSub, Int.reduceMul, Int.reduceNeg, Int.toNat_natCast, iI_cl, cl_242, sg_242_e0, e]
theorem MP_set {f : Nat → Int} (h : MP K b f I) {k : Nat} (hk : k < 7) {v : Int} (ok : ps_ok (rs f (wh k) v)) (v1 : -2147483648 ≤ v) (v2 : v < 2147483648) : MP K b (rs f (wh k) v) (am_up I 148 (7 * b + 3 + k) (iI v)) := by
  obtain ⟨⟨h1, h2, h3⟩, h4, h5, h6⟩ := h
  have hn := K_n h1
  refine ⟨⟨h1, ok, h3⟩, ?_, ?_, fun o ho e => ?_⟩
  · refine ⟨?_, ?_, ?_, ?_⟩
    · rw [up_ck (by omega)]; exact h4.1
    · rw [up_ck (by omega)]; exact h4.2.1
    · rw [up_ck (by omega)]; exact h4.2.2.1
    · rw [up_ck (by omega)]; exact h4.2.2.2
  · rw [mr_set (by omega) hk v1 v2, h5]
  · obtain ⟨x1, x2⟩ := h6 o ho e
    have er := mr_oth (I := I) (b := b) (o := o) (k := k) (v := iI v) (by omega) hk e
    refine ⟨er.trans x1, ?_⟩
    unfold mg at x2 ⊢
    rw [er]
    simp only [up_c (show 150 ≠ 148 by omega)]
    exact x2
theorem MS_MP (h : MS K I) (hb : b < kn K) : MP K b (kf K b) I := ⟨⟨MS_k h, K_f (MS_k h) hb, hb⟩, h.2.1, MS_r h hb, fun _ ho _ => ⟨MS_r h ho, MS_g h ho⟩⟩
theorem Fr_k1 {k : Nat} {v : Int32} (h3 : 3 ≤ k) (h4 : k ≤ 72) : Fr W_k I (am_up I 148 k v) := fun c j q => by
  have := (Wk_at q).2
  rw [up_ck (by omega)]
/-- phases of the model: another PHASE -/
theorem m_294 (h : MS K I) (hb : b < kn K) {p : Int} (p0 : 0 ≤ p) (p1 : p < kf K b 2) : ∃ I' : Nat → Nat → Int32, am_do X 294 [.ref 139, .int (iI b), .int (iI p)] (am_sh I J) = some (none, am_sh I' J) ∧ Fr W_k I I' ∧ MS (ks K b (rs (kf K b) 3 p)) I' := by
  have hn := K_n (MS_k h)
  have hr := K_rg (MS_k h) hb
  have ok := K_f (MS_k h) hb
  have ok2 : ps_ok (rs (kf K b) 3 p) := ⟨ok.1, ok.2.1, ⟨p0, p1⟩, ok.2.2.2⟩
  have m1 := MP_set (MS_MP h hb) (k := 2) (v := p) (by omega) ok2 (by omega) (by omega)
  obtain ⟨I', e1, e2, e3⟩ := n_lay (X := X) (J := J) m1
  have e4 := c_242 (X := X) (I := I) (J := J) (b := b) (k := 2) (v := iI p) (by omega) (by omega)
  refine ⟨I', ?_, Fr_tr (Fr_k1 (by omega) (by omega)) e2, e3⟩
  rw [show ((2 : Nat) : Int) = 2 from rfl] at e4
  simp (disch := first | omega | assumption | exact cat_n | exact cat_i _ | exact cat_r _ | (simp (disch := omega) only [l_0, l_1, l_m1, l_2, l_3, l_4, l_5, l_6, l_7, l_8, l_9, l_10, l_16, l_20, l_40, l_48, l_99, l_200, l_999, l_9999, li_73, li_78, li_m1000000, li_90, li_251, li_400, li_2400, li_91, li_153, li_173, li_96, li_32, li_92, li_12, li_93, li_80, li_14, li_1000000000, li_30, li_11, li_24, li_13, li_97, li_64, li_1600, li_49, li_255, li_2147483647, li_12345, li_1103515245, li_59, li_57, li_122, li_1023, li_1000000, li_52, li_51, li_50, li_47, li_46, li_45, li_44, li_43, li_42, li_41, li_39, li_38, li_37, li_36, li_35, li_34, li_33, li_29, li_28, li_27, li_26, li_25, li_23, li_22, li_21, li_19, li_18, li_17, li_15, li_m8, li_m2, li_60, li_54, li_2907, li_151, li_127, oN, iI_add, iI_sub, iI_mul, iI_neg, Int.reduceAdd, Int.reduceSub, Int.reduceMul, Int.reduceNeg, Int.toNat_natCast, iI_lt, iI_le, iI_eq, iI_cl, true_or, or_true, false_or, or_false, true_and, and_true, not_true_eq_false, not_false_eq_true]; first | done | omega)) only [↓if_pos, ↓if_neg, Option.bind_some, Option.toList_some, Option.toList_none, List.cons_append, List.nil_append, l_0, l_1, l_m1, l_2, l_3, l_4, l_5, l_6, l_7, l_8, l_9, l_10, l_16, l_20, l_40, l_48, l_99, l_200, l_999, l_9999, li_73, li_78, li_m1000000, li_90, li_251, li_400, li_2400, li_91, li_153, li_173, li_96, li_32, li_92, li_12, li_93, li_80, li_14, li_1000000000, li_30, li_11, li_24, li_13, li_97, li_64, li_1600, li_49, li_255, li_2147483647, li_12345, li_1103515245, li_59, li_57, li_122, li_1023, li_1000000, li_52, li_51, li_50, li_47, li_46, li_45, li_44, li_43, li_42, li_41, li_39, li_38, li_37, li_36, li_35, li_34, li_33, li_29, li_28, li_27, li_26, li_25, li_23, li_22, li_21, li_19, li_18, li_17, li_15, li_m8, li_m2, li_60, li_54, li_2907, li_151, li_127, oN, iI_add, iI_sub, iI_mul, iI_neg, Int.reduceAdd, Int.reduceSub, Int.reduceMul, Int.reduceNeg, Int.toNat_natCast, iI_cl, cl_294, sg_294_e0, sg_294_5, sg_294_8, e4, e1]
end S55
