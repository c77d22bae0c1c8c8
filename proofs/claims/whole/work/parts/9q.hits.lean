/-! odds (32): phases as the bits of a long -/
def lb (x : Int64) (i : Nat) : Bool := x.toBitVec.getLsbD i
theorem lb_or (x y : Int64) (i : Nat) : lb (x ||| y) i = (lb x i || lb y i) := by unfold lb; rw [Int64.toBitVec_or, BitVec.getLsbD_or]
theorem lb_and (x y : Int64) (i : Nat) : lb (x &&& y) i = (lb x i && lb y i) := by unfold lb; rw [Int64.toBitVec_and, BitVec.getLsbD_and]
theorem lb_0 (i : Nat) : lb (Int64.ofNat 0) i = false := BitVec.getLsbD_zero
theorem s_u64 : ∀ n, n < 64 → (((nI n).toInt64.toUInt64 &&& Int64.toUInt64 63).toBitVec % 64).toNat = n := by decide +kernel
theorem s_l64 : ∀ n, n < 64 → (((nI n).toInt64 &&& 63).toBitVec.smod 64).toNat = n := by decide +kernel
theorem lb_us {k : Nat} (hk : k < 64) (x : Int64) (i : Nat) : lb ((x.toUInt64 >>> ((iI k).toInt64.toUInt64 &&& Int64.toUInt64 63)).toInt64) i = lb x (k + i) := by
  rw [← nI_iI]
  show (x.toUInt64 >>> ((nI k).toInt64.toUInt64 &&& Int64.toUInt64 63)).toBitVec.getLsbD i = x.toUInt64.toBitVec.getLsbD (k + i)
  rw [UInt64.toBitVec_shiftRight]
  show (x.toUInt64.toBitVec >>> (((nI k).toInt64.toUInt64 &&& Int64.toUInt64 63).toBitVec % 64).toNat).getLsbD i = _
  rw [s_u64 k hk, BitVec.getLsbD_ushiftRight]
theorem lb_sl {k : Nat} (hk : k < 64) (x : Int64) {i : Nat} (hi : i < 64) : lb (x <<< ((iI k).toInt64 &&& 63)) i = (decide (k ≤ i) && lb x (i - k)) := by
  rw [← nI_iI]
  unfold lb
  rw [Int64.toBitVec_shiftLeft]
  show (x.toBitVec <<< (((nI k).toInt64 &&& 63).toBitVec.smod 64).toNat).getLsbD i = _
  rw [s_l64 k hk, BitVec.getLsbD_shiftLeft]
  rcases Nat.lt_or_ge i k with h | h
  · simp [h, Nat.not_le.mpr h]
  · simp [hi, h, Nat.not_lt.mpr h]
theorem lb_1 : ∀ i, i < 64 → lb (Int64.ofNat 1) i = decide (i = 0) := by decide +kernel
theorem lb_one {k : Nat} (hk : k < 64) {i : Nat} (hi : i < 64) : lb (Int64.ofNat 1 <<< ((iI k).toInt64 &&& 63)) i = decide (i = k) := by
  rw [lb_sl hk _ hi, lb_1 _ (by omega)]
  by_cases z : i = k
  · subst z; simp
  · by_cases y : k ≤ i
    · simp [y, z]; omega
    · simp [y, z]
theorem lb_mk {k : Nat} (hk : k ≤ 48) (x : Int64) {i : Nat} (hi : i < 64) : lb (x &&& ((Int64.ofNat 1 <<< ((iI k).toInt64 &&& 63)) - Int64.ofNat 1)) i = (lb x i && decide (i < k)) := by
  have e1 : Int64.ofNat 1 <<< ((iI k).toInt64 &&& 63) = lN (2 ^ k) := by
    have := wb_shl 1 (k := k) (by omega)
    rw [Nat.one_mul, nI_iI] at this
    exact this
  have e2 : lN (2 ^ k) - Int64.ofNat 1 = lN (2 ^ k - 1) := lN_sb (Nat.pow_pos (by omega))
  rw [e1, e2, lb_and]
  congr 1
  show (BitVec.ofNat 64 (2 ^ k - 1)).getLsbD i = _
  rw [BitVec.getLsbD_ofNat, Nat.testBit_two_pow_sub_one]
  simp [hi]
theorem lb_n (x : Int64) (h : ∀ i, 48 ≤ i → i < 64 → lb x i = false) : ∃ n, n < 2 ^ 48 ∧ x = lN n ∧ ∀ i, n.testBit i = lb x i := by
  refine ⟨x.toBitVec.toNat, ?_, ?_, fun i => rfl⟩
  · apply Nat.lt_pow_two_of_testBit
    intro i hi
    by_cases z : i < 64
    · exact h i hi z
    · exact BitVec.getLsbD_of_ge _ _ (by omega)
  · apply wb_inj
    rw [wb_tb]
    simp
section S9q
variable {X : am_X} {K : Sk} {I I' : Nat → Nat → Int32} {J : Nat → Nat → Int64} {b o : Nat}
/-- the hits of the other's step m, as bits of the one's steps -/
def ht_ (K : Sk) (b o : Nat) (s m : Int) : Prop := ps_d (kf K b) (kf K o) s m ≤ kz K * kz K
theorem k_134 (h : CS K I) (hb : b < kn K) (ho : o < kn K) : ∃ J' : Nat → Nat → Int64, am_do X 134 [.ref 96, .ref (am_bd b), .ref (am_bd o)] (am_sh I J) = some (none, am_sh I J') ∧ ∀ m : Nat, (m : Int) < kf K o 2 → ∀ s : Nat, s < 64 → (lb (J' 105 m) s = true ↔ (s : Int) < kf K b 2 ∧ ht_ K b o s m) := by
  have hK := CS_k h
  have hn := K_n hK
  have hz := K_z hK
  have okb := (K_f hK hb).2.1
  have oko := (K_f hK ho).2.1
  have tb := CS_tn h hb
  have to := CS_tn h ho
  obtain ⟨B, hB⟩ : ∃ B : Nat, kf K b 2 = B := ⟨(kf K b 2).toNat, by omega⟩
  obtain ⟨O, hO⟩ : ∃ O : Nat, kf K o 2 = O := ⟨(kf K o 2).toNat, by omega⟩
  rw [hB] at tb okb
  rw [hO] at to oko
  have INN : ∀ (m : Nat) (J1 : Nat → Nat → Int64), m < O → (∀ s, s < 64 → lb (J1 105 m) s = false) → ∃ J2 : Nat → Nat → Int64, am_ev X amP_134 13 [.ref 96, .ref (am_bd b), .ref (am_bd o), .int (iI m), .int (iI (0 : Nat))] [] (am_sh I J1) = am_ev X amP_134 2 [.ref 96, .ref (am_bd b), .ref (am_bd o), .int (iI ((m + 1 : Nat) : Int)), .int (iI B)] [] (am_sh I J2) ∧ (∀ s : Nat, s < 64 → (lb (J2 105 m) s = true ↔ s < B ∧ ht_ K b o s m)) ∧ ∀ k, k ≠ m → J2 105 k = J1 105 k := by
    intro m J1 hm h0
    have ecl : (iI (m : Int)).toNatClampNeg = m := by rw [iI_cl (by omega) (by omega), Int.toNat_natCast]
    have L := Lp1 (n := B) (G := fun s (J2 : Nat → Nat → Int64) => am_ev X amP_134 13 [.ref 96, .ref (am_bd b), .ref (am_bd o), .int (iI m), .int (iI s)] [] (am_sh I J2)) (Iv := fun s J2 => (∀ j : Nat, j < 64 → (lb (J2 105 m) j = true ↔ j < s ∧ ht_ K b o j m)) ∧ ∀ k, k ≠ m → J2 105 k = J1 105 k) (P := fun r => ∃ J2 : Nat → Nat → Int64, r = am_ev X amP_134 2 [.ref 96, .ref (am_bd b), .ref (am_bd o), .int (iI ((m + 1 : Nat) : Int)), .int (iI B)] [] (am_sh I J2) ∧ (∀ s : Nat, s < 64 → (lb (J2 105 m) s = true ↔ s < B ∧ ht_ K b o s m)) ∧ ∀ k, k ≠ m → J2 105 k = J1 105 k) (by
      rintro s J2 hs ⟨v1, v2⟩
      right
      have e36 := k_36 (X := X) (J := J2) h hb ho (e := kz K) (s := s) (u := m) (by omega) (by omega) (by omega) (by omega) (by omega) (by omega)
      by_cases q : ht_ K b o s m
      · have e36' : am_do X 36 [.ref (am_bd b), .int (iI (kz K)), .int (iI s), .ref (am_bd o), .int (iI m)] (am_sh I J2) = some (some (.int (iI 1)), am_sh I J2) := by rw [e36]; unfold ht_ at q; rw [bI_t q]
        refine ⟨am_up J2 105 m (J2 105 m ||| (Int64.ofNat 1 <<< ((iI s).toInt64 &&& 63))), ⟨fun j hj => ?_, fun k hk => by rw [up_k hk]; exact v2 k hk⟩, ?_⟩
        · rw [up_at, lb_or, lb_one (by omega) hj, Bool.or_eq_true, v1 j hj, decide_eq_true_iff]
          constructor
          · rintro (⟨y1, y2⟩ | rfl)
            · exact ⟨by omega, y2⟩
            · exact ⟨by omega, q⟩
          · rintro ⟨y1, y2⟩
            by_cases y3 : j = s
            · exact Or.inr y3
            · exact Or.inl ⟨by omega, y2⟩
        · try dsimp only
          rw [cS, sg_134_13 (hb1 := by omega) (hb2 := by omega), tb, CS_z h]
          simp (disch := first | omega | assumption | exact cat_n | exact cat_i _ | exact cat_r _ | (simp (disch := omega) only [l_0, l_1, l_m1, l_2, l_3, l_4, l_5, l_6, l_7, l_8, l_9, l_10, l_16, l_20, l_40, l_48, l_99, l_200, l_999, l_9999, li_73, li_78, li_m1000000, li_90, li_251, li_400, li_2400, li_91, li_153, li_173, li_96, li_32, li_92, li_12, li_93, li_80, li_14, li_1000000000, li_30, li_11, li_24, li_13, li_97, li_64, li_1600, li_49, li_255, li_2147483647, li_12345, li_1103515245, li_59, li_57, li_122, li_1023, li_1000000, li_52, li_51, li_50, li_47, li_46, li_45, li_44, li_43, li_42, li_41, li_39, li_38, li_37, li_36, li_35, li_34, li_33, li_29, li_28, li_27, li_26, li_25, li_23, li_22, li_21, li_19, li_18, li_17, li_15, li_m8, li_m2, li_60, li_54, li_2907, li_151, li_127, oN, iI_add, iI_sub, iI_mul, iI_neg, Int.reduceAdd, Int.reduceSub, Int.reduceMul, Int.reduceNeg, Int.toNat_natCast, Int.reduceToNat, iI_lt, iI_le, iI_eq, iI_cl, true_or, or_true, false_or, or_false, true_and, and_true, not_true_eq_false, not_false_eq_true]; first | done | omega)) only [↓if_pos, ↓if_neg, Option.bind_some, Option.toList_some, Option.toList_none, List.cons_append, List.nil_append, l_0, l_1, l_m1, l_2, l_3, l_4, l_5, l_6, l_7, l_8, l_9, l_10, l_16, l_20, l_40, l_48, l_99, l_200, l_999, l_9999, li_73, li_78, li_m1000000, li_90, li_251, li_400, li_2400, li_91, li_153, li_173, li_96, li_32, li_92, li_12, li_93, li_80, li_14, li_1000000000, li_30, li_11, li_24, li_13, li_97, li_64, li_1600, li_49, li_255, li_2147483647, li_12345, li_1103515245, li_59, li_57, li_122, li_1023, li_1000000, li_52, li_51, li_50, li_47, li_46, li_45, li_44, li_43, li_42, li_41, li_39, li_38, li_37, li_36, li_35, li_34, li_33, li_29, li_28, li_27, li_26, li_25, li_23, li_22, li_21, li_19, li_18, li_17, li_15, li_m8, li_m2, li_60, li_54, li_2907, li_151, li_127, oN, iI_add, iI_sub, iI_mul, iI_neg, Int.reduceAdd, Int.reduceSub, Int.reduceMul, Int.reduceNeg, Int.toNat_natCast, Int.reduceToNat, iI_cl, e36']
          rw [sg_134_25 (hb1 := by omega) (hb2 := by omega), ecl]
          simp (disch := first | omega | assumption | exact cat_n | exact cat_i _ | exact cat_r _ | (simp (disch := omega) only [l_0, l_1, l_m1, l_2, l_3, l_4, l_5, l_6, l_7, l_8, l_9, l_10, l_16, l_20, l_40, l_48, l_99, l_200, l_999, l_9999, li_73, li_78, li_m1000000, li_90, li_251, li_400, li_2400, li_91, li_153, li_173, li_96, li_32, li_92, li_12, li_93, li_80, li_14, li_1000000000, li_30, li_11, li_24, li_13, li_97, li_64, li_1600, li_49, li_255, li_2147483647, li_12345, li_1103515245, li_59, li_57, li_122, li_1023, li_1000000, li_52, li_51, li_50, li_47, li_46, li_45, li_44, li_43, li_42, li_41, li_39, li_38, li_37, li_36, li_35, li_34, li_33, li_29, li_28, li_27, li_26, li_25, li_23, li_22, li_21, li_19, li_18, li_17, li_15, li_m8, li_m2, li_60, li_54, li_2907, li_151, li_127, oN, iI_add, iI_sub, iI_mul, iI_neg, Int.reduceAdd, Int.reduceSub, Int.reduceMul, Int.reduceNeg, Int.toNat_natCast, Int.reduceToNat, iI_lt, iI_le, iI_eq, iI_cl, true_or, or_true, false_or, or_false, true_and, and_true, not_true_eq_false, not_false_eq_true]; first | done | omega)) only [↓if_pos, ↓if_neg, Option.bind_some, Option.toList_some, Option.toList_none, List.cons_append, List.nil_append, l_0, l_1, l_m1, l_2, l_3, l_4, l_5, l_6, l_7, l_8, l_9, l_10, l_16, l_20, l_40, l_48, l_99, l_200, l_999, l_9999, li_73, li_78, li_m1000000, li_90, li_251, li_400, li_2400, li_91, li_153, li_173, li_96, li_32, li_92, li_12, li_93, li_80, li_14, li_1000000000, li_30, li_11, li_24, li_13, li_97, li_64, li_1600, li_49, li_255, li_2147483647, li_12345, li_1103515245, li_59, li_57, li_122, li_1023, li_1000000, li_52, li_51, li_50, li_47, li_46, li_45, li_44, li_43, li_42, li_41, li_39, li_38, li_37, li_36, li_35, li_34, li_33, li_29, li_28, li_27, li_26, li_25, li_23, li_22, li_21, li_19, li_18, li_17, li_15, li_m8, li_m2, li_60, li_54, li_2907, li_151, li_127, oN, iI_add, iI_sub, iI_mul, iI_neg, Int.reduceAdd, Int.reduceSub, Int.reduceMul, Int.reduceNeg, Int.toNat_natCast, Int.reduceToNat, iI_cl]
      · have e36' : am_do X 36 [.ref (am_bd b), .int (iI (kz K)), .int (iI s), .ref (am_bd o), .int (iI m)] (am_sh I J2) = some (some (.int (iI 0)), am_sh I J2) := by rw [e36]; unfold ht_ at q; rw [bI_f q]
        refine ⟨J2, ⟨fun j hj => ?_, v2⟩, ?_⟩
        · rw [v1 j hj]
          constructor
          · rintro ⟨y1, y2⟩
            exact ⟨by omega, y2⟩
          · rintro ⟨y1, y2⟩
            by_cases y3 : j = s
            · subst y3; exact absurd y2 q
            · exact ⟨by omega, y2⟩
        · try dsimp only
          rw [cS, sg_134_13 (hb1 := by omega) (hb2 := by omega), tb, CS_z h]
          simp (disch := first | omega | assumption | exact cat_n | exact cat_i _ | exact cat_r _ | (simp (disch := omega) only [l_0, l_1, l_m1, l_2, l_3, l_4, l_5, l_6, l_7, l_8, l_9, l_10, l_16, l_20, l_40, l_48, l_99, l_200, l_999, l_9999, li_73, li_78, li_m1000000, li_90, li_251, li_400, li_2400, li_91, li_153, li_173, li_96, li_32, li_92, li_12, li_93, li_80, li_14, li_1000000000, li_30, li_11, li_24, li_13, li_97, li_64, li_1600, li_49, li_255, li_2147483647, li_12345, li_1103515245, li_59, li_57, li_122, li_1023, li_1000000, li_52, li_51, li_50, li_47, li_46, li_45, li_44, li_43, li_42, li_41, li_39, li_38, li_37, li_36, li_35, li_34, li_33, li_29, li_28, li_27, li_26, li_25, li_23, li_22, li_21, li_19, li_18, li_17, li_15, li_m8, li_m2, li_60, li_54, li_2907, li_151, li_127, oN, iI_add, iI_sub, iI_mul, iI_neg, Int.reduceAdd, Int.reduceSub, Int.reduceMul, Int.reduceNeg, Int.toNat_natCast, Int.reduceToNat, iI_lt, iI_le, iI_eq, iI_cl, true_or, or_true, false_or, or_false, true_and, and_true, not_true_eq_false, not_false_eq_true]; first | done | omega)) only [↓if_pos, ↓if_neg, Option.bind_some, Option.toList_some, Option.toList_none, List.cons_append, List.nil_append, l_0, l_1, l_m1, l_2, l_3, l_4, l_5, l_6, l_7, l_8, l_9, l_10, l_16, l_20, l_40, l_48, l_99, l_200, l_999, l_9999, li_73, li_78, li_m1000000, li_90, li_251, li_400, li_2400, li_91, li_153, li_173, li_96, li_32, li_92, li_12, li_93, li_80, li_14, li_1000000000, li_30, li_11, li_24, li_13, li_97, li_64, li_1600, li_49, li_255, li_2147483647, li_12345, li_1103515245, li_59, li_57, li_122, li_1023, li_1000000, li_52, li_51, li_50, li_47, li_46, li_45, li_44, li_43, li_42, li_41, li_39, li_38, li_37, li_36, li_35, li_34, li_33, li_29, li_28, li_27, li_26, li_25, li_23, li_22, li_21, li_19, li_18, li_17, li_15, li_m8, li_m2, li_60, li_54, li_2907, li_151, li_127, oN, iI_add, iI_sub, iI_mul, iI_neg, Int.reduceAdd, Int.reduceSub, Int.reduceMul, Int.reduceNeg, Int.toNat_natCast, Int.reduceToNat, iI_cl, e36']
          rw [sg_134_25 (hb1 := by omega) (hb2 := by omega)]
          simp (disch := first | omega | assumption | exact cat_n | exact cat_i _ | exact cat_r _ | (simp (disch := omega) only [l_0, l_1, l_m1, l_2, l_3, l_4, l_5, l_6, l_7, l_8, l_9, l_10, l_16, l_20, l_40, l_48, l_99, l_200, l_999, l_9999, li_73, li_78, li_m1000000, li_90, li_251, li_400, li_2400, li_91, li_153, li_173, li_96, li_32, li_92, li_12, li_93, li_80, li_14, li_1000000000, li_30, li_11, li_24, li_13, li_97, li_64, li_1600, li_49, li_255, li_2147483647, li_12345, li_1103515245, li_59, li_57, li_122, li_1023, li_1000000, li_52, li_51, li_50, li_47, li_46, li_45, li_44, li_43, li_42, li_41, li_39, li_38, li_37, li_36, li_35, li_34, li_33, li_29, li_28, li_27, li_26, li_25, li_23, li_22, li_21, li_19, li_18, li_17, li_15, li_m8, li_m2, li_60, li_54, li_2907, li_151, li_127, oN, iI_add, iI_sub, iI_mul, iI_neg, Int.reduceAdd, Int.reduceSub, Int.reduceMul, Int.reduceNeg, Int.toNat_natCast, Int.reduceToNat, iI_lt, iI_le, iI_eq, iI_cl, true_or, or_true, false_or, or_false, true_and, and_true, not_true_eq_false, not_false_eq_true]; first | done | omega)) only [↓if_pos, ↓if_neg, Option.bind_some, Option.toList_some, Option.toList_none, List.cons_append, List.nil_append, l_0, l_1, l_m1, l_2, l_3, l_4, l_5, l_6, l_7, l_8, l_9, l_10, l_16, l_20, l_40, l_48, l_99, l_200, l_999, l_9999, li_73, li_78, li_m1000000, li_90, li_251, li_400, li_2400, li_91, li_153, li_173, li_96, li_32, li_92, li_12, li_93, li_80, li_14, li_1000000000, li_30, li_11, li_24, li_13, li_97, li_64, li_1600, li_49, li_255, li_2147483647, li_12345, li_1103515245, li_59, li_57, li_122, li_1023, li_1000000, li_52, li_51, li_50, li_47, li_46, li_45, li_44, li_43, li_42, li_41, li_39, li_38, li_37, li_36, li_35, li_34, li_33, li_29, li_28, li_27, li_26, li_25, li_23, li_22, li_21, li_19, li_18, li_17, li_15, li_m8, li_m2, li_60, li_54, li_2907, li_151, li_127, oN, iI_add, iI_sub, iI_mul, iI_neg, Int.reduceAdd, Int.reduceSub, Int.reduceMul, Int.reduceNeg, Int.toNat_natCast, Int.reduceToNat, iI_cl]) (by
      rintro J2 ⟨v1, v2⟩
      refine ⟨J2, ?_, v1, v2⟩
      try dsimp only
      rw [cS, sg_134_13 (hb1 := by omega) (hb2 := by omega), tb]
      simp (disch := first | omega | assumption | exact cat_n | exact cat_i _ | exact cat_r _ | (simp (disch := omega) only [l_0, l_1, l_m1, l_2, l_3, l_4, l_5, l_6, l_7, l_8, l_9, l_10, l_16, l_20, l_40, l_48, l_99, l_200, l_999, l_9999, li_73, li_78, li_m1000000, li_90, li_251, li_400, li_2400, li_91, li_153, li_173, li_96, li_32, li_92, li_12, li_93, li_80, li_14, li_1000000000, li_30, li_11, li_24, li_13, li_97, li_64, li_1600, li_49, li_255, li_2147483647, li_12345, li_1103515245, li_59, li_57, li_122, li_1023, li_1000000, li_52, li_51, li_50, li_47, li_46, li_45, li_44, li_43, li_42, li_41, li_39, li_38, li_37, li_36, li_35, li_34, li_33, li_29, li_28, li_27, li_26, li_25, li_23, li_22, li_21, li_19, li_18, li_17, li_15, li_m8, li_m2, li_60, li_54, li_2907, li_151, li_127, oN, iI_add, iI_sub, iI_mul, iI_neg, Int.reduceAdd, Int.reduceSub, Int.reduceMul, Int.reduceNeg, Int.toNat_natCast, Int.reduceToNat, iI_lt, iI_le, iI_eq, iI_cl, true_or, or_true, false_or, or_false, true_and, and_true, not_true_eq_false, not_false_eq_true]; first | done | omega)) only [↓if_pos, ↓if_neg, Option.bind_some, Option.toList_some, Option.toList_none, List.cons_append, List.nil_append, l_0, l_1, l_m1, l_2, l_3, l_4, l_5, l_6, l_7, l_8, l_9, l_10, l_16, l_20, l_40, l_48, l_99, l_200, l_999, l_9999, li_73, li_78, li_m1000000, li_90, li_251, li_400, li_2400, li_91, li_153, li_173, li_96, li_32, li_92, li_12, li_93, li_80, li_14, li_1000000000, li_30, li_11, li_24, li_13, li_97, li_64, li_1600, li_49, li_255, li_2147483647, li_12345, li_1103515245, li_59, li_57, li_122, li_1023, li_1000000, li_52, li_51, li_50, li_47, li_46, li_45, li_44, li_43, li_42, li_41, li_39, li_38, li_37, li_36, li_35, li_34, li_33, li_29, li_28, li_27, li_26, li_25, li_23, li_22, li_21, li_19, li_18, li_17, li_15, li_m8, li_m2, li_60, li_54, li_2907, li_151, li_127, oN, iI_add, iI_sub, iI_mul, iI_neg, Int.reduceAdd, Int.reduceSub, Int.reduceMul, Int.reduceNeg, Int.toNat_natCast, Int.reduceToNat, iI_cl]) J1 ⟨fun j hj => ⟨fun z => absurd z (by rw [h0 j hj]; decide), fun z => absurd z.1 (by omega)⟩, fun _ _ => rfl⟩
    exact L
  have M := Lp1 (n := O) (G := fun m (p : (Nat → Nat → Int64) × Value) => am_ev X amP_134 2 [.ref 96, .ref (am_bd b), .ref (am_bd o), .int (iI m), p.2] [] (am_sh I p.1)) (Iv := fun m p => p.2.category = 1 ∧ ∀ k : Nat, k < m → ∀ s : Nat, s < 64 → (lb (p.1 105 k) s = true ↔ s < B ∧ ht_ K b o s k)) (P := fun r => ∃ J' : Nat → Nat → Int64, r = some (none, am_sh I J') ∧ ∀ m : Nat, m < O → ∀ s : Nat, s < 64 → (lb (J' 105 m) s = true ↔ s < B ∧ ht_ K b o s m)) (by
    rintro m ⟨J1, w⟩ hm ⟨hw, v⟩
    right
    have ecl : (iI (m : Int)).toNatClampNeg = m := by rw [iI_cl (by omega) (by omega), Int.toNat_natCast]
    obtain ⟨J2, i1, i2, i3⟩ := INN m (am_up J1 105 m (Int64.ofNat 0)) hm (fun s _ => by rw [up_at]; exact lb_0 s)
    rw [c0] at i1
    refine ⟨(J2, .int (iI B)), ⟨cat_i _, fun k hk s hs => ?_⟩, ?_⟩
    · try dsimp only
      by_cases y : k = m
      · subst y; exact i2 s hs
      · rw [i3 k y, up_k y]
        exact v k (by omega) s hs
    · try dsimp only
      rw [← i1, sg_134_2 (hb1 := by omega) (hb2 := by omega) (hw4 := hw), to, ecl]
      simp (disch := first | omega | assumption | exact cat_n | exact cat_i _ | exact cat_r _ | (simp (disch := omega) only [l_0, l_1, l_m1, l_2, l_3, l_4, l_5, l_6, l_7, l_8, l_9, l_10, l_16, l_20, l_40, l_48, l_99, l_200, l_999, l_9999, li_73, li_78, li_m1000000, li_90, li_251, li_400, li_2400, li_91, li_153, li_173, li_96, li_32, li_92, li_12, li_93, li_80, li_14, li_1000000000, li_30, li_11, li_24, li_13, li_97, li_64, li_1600, li_49, li_255, li_2147483647, li_12345, li_1103515245, li_59, li_57, li_122, li_1023, li_1000000, li_52, li_51, li_50, li_47, li_46, li_45, li_44, li_43, li_42, li_41, li_39, li_38, li_37, li_36, li_35, li_34, li_33, li_29, li_28, li_27, li_26, li_25, li_23, li_22, li_21, li_19, li_18, li_17, li_15, li_m8, li_m2, li_60, li_54, li_2907, li_151, li_127, oN, iI_add, iI_sub, iI_mul, iI_neg, Int.reduceAdd, Int.reduceSub, Int.reduceMul, Int.reduceNeg, Int.toNat_natCast, Int.reduceToNat, iI_lt, iI_le, iI_eq, iI_cl, true_or, or_true, false_or, or_false, true_and, and_true, not_true_eq_false, not_false_eq_true]; first | done | omega)) only [↓if_pos, ↓if_neg, Option.bind_some, Option.toList_some, Option.toList_none, List.cons_append, List.nil_append, l_0, l_1, l_m1, l_2, l_3, l_4, l_5, l_6, l_7, l_8, l_9, l_10, l_16, l_20, l_40, l_48, l_99, l_200, l_999, l_9999, li_73, li_78, li_m1000000, li_90, li_251, li_400, li_2400, li_91, li_153, li_173, li_96, li_32, li_92, li_12, li_93, li_80, li_14, li_1000000000, li_30, li_11, li_24, li_13, li_97, li_64, li_1600, li_49, li_255, li_2147483647, li_12345, li_1103515245, li_59, li_57, li_122, li_1023, li_1000000, li_52, li_51, li_50, li_47, li_46, li_45, li_44, li_43, li_42, li_41, li_39, li_38, li_37, li_36, li_35, li_34, li_33, li_29, li_28, li_27, li_26, li_25, li_23, li_22, li_21, li_19, li_18, li_17, li_15, li_m8, li_m2, li_60, li_54, li_2907, li_151, li_127, oN, iI_add, iI_sub, iI_mul, iI_neg, Int.reduceAdd, Int.reduceSub, Int.reduceMul, Int.reduceNeg, Int.toNat_natCast, Int.reduceToNat, iI_cl]) (by
    rintro ⟨J1, w⟩ ⟨hw, v⟩
    refine ⟨J1, ?_, v⟩
    try dsimp only
    rw [sg_134_2 (hb1 := by omega) (hb2 := by omega) (hw4 := hw), to]
    simp (disch := first | omega | assumption | exact cat_n | exact cat_i _ | exact cat_r _ | (simp (disch := omega) only [l_0, l_1, l_m1, l_2, l_3, l_4, l_5, l_6, l_7, l_8, l_9, l_10, l_16, l_20, l_40, l_48, l_99, l_200, l_999, l_9999, li_73, li_78, li_m1000000, li_90, li_251, li_400, li_2400, li_91, li_153, li_173, li_96, li_32, li_92, li_12, li_93, li_80, li_14, li_1000000000, li_30, li_11, li_24, li_13, li_97, li_64, li_1600, li_49, li_255, li_2147483647, li_12345, li_1103515245, li_59, li_57, li_122, li_1023, li_1000000, li_52, li_51, li_50, li_47, li_46, li_45, li_44, li_43, li_42, li_41, li_39, li_38, li_37, li_36, li_35, li_34, li_33, li_29, li_28, li_27, li_26, li_25, li_23, li_22, li_21, li_19, li_18, li_17, li_15, li_m8, li_m2, li_60, li_54, li_2907, li_151, li_127, oN, iI_add, iI_sub, iI_mul, iI_neg, Int.reduceAdd, Int.reduceSub, Int.reduceMul, Int.reduceNeg, Int.toNat_natCast, Int.reduceToNat, iI_lt, iI_le, iI_eq, iI_cl, true_or, or_true, false_or, or_false, true_and, and_true, not_true_eq_false, not_false_eq_true]; first | done | omega)) only [↓if_pos, ↓if_neg, Option.bind_some, Option.toList_some, Option.toList_none, List.cons_append, List.nil_append, l_0, l_1, l_m1, l_2, l_3, l_4, l_5, l_6, l_7, l_8, l_9, l_10, l_16, l_20, l_40, l_48, l_99, l_200, l_999, l_9999, li_73, li_78, li_m1000000, li_90, li_251, li_400, li_2400, li_91, li_153, li_173, li_96, li_32, li_92, li_12, li_93, li_80, li_14, li_1000000000, li_30, li_11, li_24, li_13, li_97, li_64, li_1600, li_49, li_255, li_2147483647, li_12345, li_1103515245, li_59, li_57, li_122, li_1023, li_1000000, li_52, li_51, li_50, li_47, li_46, li_45, li_44, li_43, li_42, li_41, li_39, li_38, li_37, li_36, li_35, li_34, li_33, li_29, li_28, li_27, li_26, li_25, li_23, li_22, li_21, li_19, li_18, li_17, li_15, li_m8, li_m2, li_60, li_54, li_2907, li_151, li_127, oN, iI_add, iI_sub, iI_mul, iI_neg, Int.reduceAdd, Int.reduceSub, Int.reduceMul, Int.reduceNeg, Int.toNat_natCast, Int.reduceToNat, iI_cl]) (J, .null) ⟨cat_n, fun k hk => by omega⟩
  obtain ⟨J', m1, m2⟩ := M
  try dsimp only at m1
  rw [c0] at m1
  refine ⟨J', ?_, fun m hm s hs => ?_⟩
  · rw [cl_134]
    · rw [sg_134_e0 (hb1 := by omega) (hb2 := by omega)]
      exact m1
    all_goals first | assumption | omega | exact cat_n | exact cat_i _ | exact cat_r _ | rfl
  · rw [hO] at hm
    rw [m2 m (by omega) s hs, hB]
    constructor
    · rintro ⟨y1, y2⟩; exact ⟨by omega, y2⟩
    · rintro ⟨y1, y2⟩; exact ⟨by omega, y2⟩
end S9q
