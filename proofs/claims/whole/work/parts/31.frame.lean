/-! FRAME: numbers, truth as a Bool, counts, a sky K, class and model stand for it -/
theorem li_73 : (73 : Int32) = iI (73) := rfl
theorem li_78 : (78 : Int32) = iI (78) := rfl
theorem li_m1000000 : (-1000000 : Int32) = iI (-1000000) := rfl
theorem li_90 : (90 : Int32) = iI (90) := rfl
theorem li_251 : (251 : Int32) = iI (251) := rfl
theorem li_400 : (400 : Int32) = iI (400) := rfl
theorem li_2400 : (2400 : Int32) = iI (2400) := rfl
theorem li_91 : (91 : Int32) = iI (91) := rfl
theorem li_153 : (153 : Int32) = iI (153) := rfl
theorem li_173 : (173 : Int32) = iI (173) := rfl
theorem li_96 : (96 : Int32) = iI (96) := rfl
theorem li_32 : (32 : Int32) = iI (32) := rfl
theorem li_92 : (92 : Int32) = iI (92) := rfl
theorem li_12 : (12 : Int32) = iI (12) := rfl
theorem li_93 : (93 : Int32) = iI (93) := rfl
theorem li_80 : (80 : Int32) = iI (80) := rfl
theorem li_14 : (14 : Int32) = iI (14) := rfl
theorem li_1000000000 : (1000000000 : Int32) = iI (1000000000) := rfl
theorem li_30 : (30 : Int32) = iI (30) := rfl
theorem li_11 : (11 : Int32) = iI (11) := rfl
theorem li_24 : (24 : Int32) = iI (24) := rfl
theorem li_13 : (13 : Int32) = iI (13) := rfl
theorem li_97 : (97 : Int32) = iI (97) := rfl
theorem li_64 : (64 : Int32) = iI (64) := rfl
theorem li_1600 : (1600 : Int32) = iI (1600) := rfl
theorem li_49 : (49 : Int32) = iI (49) := rfl
theorem li_255 : (255 : Int32) = iI (255) := rfl
theorem li_2147483647 : (2147483647 : Int32) = iI (2147483647) := rfl
theorem li_12345 : (12345 : Int32) = iI (12345) := rfl
theorem li_1103515245 : (1103515245 : Int32) = iI (1103515245) := rfl
theorem li_59 : (59 : Int32) = iI (59) := rfl
theorem li_57 : (57 : Int32) = iI (57) := rfl
theorem li_122 : (122 : Int32) = iI (122) := rfl
theorem li_1023 : (1023 : Int32) = iI (1023) := rfl
theorem li_1000000 : (1000000 : Int32) = iI (1000000) := rfl
theorem li_52 : (52 : Int32) = iI (52) := rfl
theorem li_51 : (51 : Int32) = iI (51) := rfl
theorem li_50 : (50 : Int32) = iI (50) := rfl
theorem li_47 : (47 : Int32) = iI (47) := rfl
theorem li_46 : (46 : Int32) = iI (46) := rfl
theorem li_45 : (45 : Int32) = iI (45) := rfl
theorem li_44 : (44 : Int32) = iI (44) := rfl
theorem li_43 : (43 : Int32) = iI (43) := rfl
theorem li_42 : (42 : Int32) = iI (42) := rfl
theorem li_41 : (41 : Int32) = iI (41) := rfl
theorem li_39 : (39 : Int32) = iI (39) := rfl
theorem li_38 : (38 : Int32) = iI (38) := rfl
theorem li_37 : (37 : Int32) = iI (37) := rfl
theorem li_36 : (36 : Int32) = iI (36) := rfl
theorem li_35 : (35 : Int32) = iI (35) := rfl
theorem li_34 : (34 : Int32) = iI (34) := rfl
theorem li_33 : (33 : Int32) = iI (33) := rfl
theorem li_29 : (29 : Int32) = iI (29) := rfl
theorem li_28 : (28 : Int32) = iI (28) := rfl
theorem li_27 : (27 : Int32) = iI (27) := rfl
theorem li_26 : (26 : Int32) = iI (26) := rfl
theorem li_25 : (25 : Int32) = iI (25) := rfl
theorem li_23 : (23 : Int32) = iI (23) := rfl
theorem li_22 : (22 : Int32) = iI (22) := rfl
theorem li_21 : (21 : Int32) = iI (21) := rfl
theorem li_19 : (19 : Int32) = iI (19) := rfl
theorem li_18 : (18 : Int32) = iI (18) := rfl
theorem li_17 : (17 : Int32) = iI (17) := rfl
theorem li_15 : (15 : Int32) = iI (15) := rfl
theorem li_m8 : (-8 : Int32) = iI (-8) := rfl
theorem li_m2 : (-2 : Int32) = iI (-2) := rfl
theorem li_60 : (60 : Int32) = iI (60) := rfl
theorem li_54 : (54 : Int32) = iI (54) := rfl
theorem li_2907 : (2907 : Int32) = iI (2907) := rfl
theorem li_151 : (151 : Int32) = iI (151) := rfl
theorem li_127 : (127 : Int32) = iI (127) := rfl
noncomputable def bl (p : Prop) : Bool := @decide p (Classical.propDecidable p)
theorem bl_iff {p : Prop} : bl p = true ↔ p := by unfold bl; exact @decide_eq_true_iff p (Classical.propDecidable p)
theorem bl_t {p : Prop} (h : p) : bl p = true := bl_iff.mpr h
theorem bl_f {p : Prop} (h : ¬ p) : bl p = false := by
  cases e : bl p with
  | false => rfl
  | true => exact absurd (bl_iff.mp e) h
theorem bl_cg {p q : Prop} (h : p ↔ q) : bl p = bl q := by rw [propext h]
noncomputable def ci (p : Nat → Prop) (n : Nat) : Int := ((fb_ct (fun k => bl (p k)) n : Nat) : Int)
section CI
variable {p q : Nat → Prop} {k n : Nat}
theorem ci_0 : ci p 0 = 0 := rfl
theorem ci_t (h : p k) : ci p (k + 1) = ci p k + 1 := by
  unfold ci
  rw [fb_ct_succ, bl_t h]
  rfl
theorem ci_f (h : ¬ p k) : ci p (k + 1) = ci p k := by
  unfold ci
  rw [fb_ct_succ, bl_f h]
  rfl
theorem ci_rg : 0 ≤ ci p n ∧ ci p n ≤ n := by
  have := fb_ct_le (fun k => bl (p k)) n
  unfold ci
  omega
theorem ci_cg (h : ∀ k, k < n → (p k ↔ q k)) : ci p n = ci q n := by
  unfold ci
  rw [fb_ct_cong (fun k hk => bl_cg (h k hk))]
theorem ci_z : ci p n = 0 ↔ ∀ k, k < n → ¬ p k := by
  unfold ci
  have := @fb_ct_zero (fun k => bl (p k)) n
  constructor
  · intro h k hk hp
    have h2 := this.mp (by omega) k hk
    rw [bl_t hp] at h2
    cases h2
  · intro h
    have := this.mpr (fun k hk => bl_f (h k hk))
    omega
theorem ci_mono {m : Nat} (h : m ≤ n) : ci p m ≤ ci p n := by
  have := fb_ct_mono (fun k => bl (p k)) h
  unfold ci
  omega
theorem ci_pos (h : k < n) (hp : p k) : 0 < ci p n := by
  have := ci_rg (p := p) (n := n)
  have h0 : ci p n ≠ 0 := fun z => ci_z.mp z k h hp
  omega
end CI
/-- UP -/
def ku (K : Sk) (b : Nat) : Prop := b < kn K ∧ kf K b 8 = 1
def Kok (K : Sk) : Prop := kn K ≤ 10 ∧ (∀ b, b < kn K → ps_ok (kf K b)) ∧ (0 ≤ ke K ∧ ke K ≤ 99) ∧ (0 ≤ kz K ∧ kz K ≤ 20) ∧ (0 ≤ kt K ∧ kt K ≤ 9999)
def CS (K : Sk) (I : Nat → Nat → Int32) : Prop := Kok K ∧ (I 16 2 = iI (kn K) ∧ I 16 3 = iI (ke K) ∧ I 16 4 = iI (kz K) ∧ I 16 5 = iI (kt K)) ∧ ∀ b, b < kn K → CB I b ∧ cr I b = kf K b
def MS (K : Sk) (I : Nat → Nat → Int32) : Prop := Kok K ∧ (I 139 1 = iI (kn K) ∧ I 139 2 = iI (kz K) ∧ I 148 0 = iI (ke K) ∧ I 148 1 = iI (kt K)) ∧ ∀ b, b < kn K → mr I b = kf K b ∧ mg I b
section PRJ2
variable {K : Sk} {I : Nat → Nat → Int32} {b o : Nat}
theorem K_n (h : Kok K) : kn K ≤ 10 := h.1
theorem K_f (h : Kok K) (hb : b < kn K) : ps_ok (kf K b) := h.2.1 b hb
theorem K_e (h : Kok K) : 0 ≤ ke K ∧ ke K ≤ 99 := h.2.2.1
theorem K_z (h : Kok K) : 0 ≤ kz K ∧ kz K ≤ 20 := h.2.2.2.1
theorem K_t (h : Kok K) : 0 ≤ kt K ∧ kt K ≤ 9999 := h.2.2.2.2
theorem CS_k (h : CS K I) : Kok K := h.1
theorem CS_n (h : CS K I) : I 16 2 = iI (kn K) := h.2.1.1
theorem CS_e (h : CS K I) : I 16 3 = iI (ke K) := h.2.1.2.1
theorem CS_z (h : CS K I) : I 16 4 = iI (kz K) := h.2.1.2.2.1
theorem CS_t (h : CS K I) : I 16 5 = iI (kt K) := h.2.1.2.2.2
theorem CS_B (h : CS K I) (hb : b < kn K) : CB I b := (h.2.2 b hb).1
theorem CS_r (h : CS K I) (hb : b < kn K) : cr I b = kf K b := (h.2.2 b hb).2
theorem CS_c {k : Nat} (h : CS K I) (hb : b < kn K) (hk : k < 9) : I (am_bd b + 1) k = iI (kf K b k) := by
  rw [← CS_r h hb]
  exact cr_cell hk
theorem CS_tn (h : CS K I) (hb : b < kn K) : I (am_bd b) 1 = iI (kf K b 2) := by
  have := CB_t (CS_B h hb)
  rw [CS_r h hb] at this
  exact this
theorem CS_x {s : Int} (h : CS K I) (hb : b < kn K) (h0 : 0 ≤ s) (h1 : s < kf K b 2) : I (am_bd b + 2) s.toNat = iI (ps_x (kf K b) s) := by
  have := CB_x (CS_B h hb) (s := s) h0 (by rw [CS_r h hb]; exact h1)
  rw [CS_r h hb] at this
  exact this
theorem CS_y {s : Int} (h : CS K I) (hb : b < kn K) (h0 : 0 ≤ s) (h1 : s < kf K b 2) : I (am_bd b + 3) s.toNat = iI (ps_y (kf K b) s) := by
  have := CB_y (CS_B h hb) (s := s) h0 (by rw [CS_r h hb]; exact h1)
  rw [CS_r h hb] at this
  exact this
theorem CS_zz {s : Int} (h : CS K I) (hb : b < kn K) (h0 : 0 ≤ s) (h1 : s < kf K b 2) : I (am_bd b + 4) s.toNat = iI (ps_z (kf K b) s) := by
  have := CB_z (CS_B h hb) (s := s) h0 (by rw [CS_r h hb]; exact h1)
  rw [CS_r h hb] at this
  exact this
theorem K_rg (h : Kok K) (hb : b < kn K) : (1 ≤ kf K b 0 ∧ kf K b 0 ≤ kf K b 1 ∧ kf K b 1 ≤ 200) ∧ (2 ≤ kf K b 2 ∧ kf K b 2 ≤ 48) ∧ (0 ≤ kf K b 3 ∧ kf K b 3 < kf K b 2) ∧ (0 ≤ kf K b 4 ∧ kf K b 4 < kf K b 2) ∧ (0 ≤ kf K b 5 ∧ kf K b 5 ≤ 16) ∧ (0 ≤ kf K b 6 ∧ kf K b 6 ≤ 3) ∧ (0 ≤ kf K b 7 ∧ kf K b 7 ≤ 99) ∧ (0 ≤ kf K b 8 ∧ kf K b 8 ≤ 1) := K_f h hb
theorem MS_k (h : MS K I) : Kok K := h.1
theorem MS_n (h : MS K I) : I 139 1 = iI (kn K) := h.2.1.1
theorem MS_z (h : MS K I) : I 139 2 = iI (kz K) := h.2.1.2.1
theorem MS_e (h : MS K I) : I 148 0 = iI (ke K) := h.2.1.2.2.1
theorem MS_t (h : MS K I) : I 148 1 = iI (kt K) := h.2.1.2.2.2
theorem MS_r (h : MS K I) (hb : b < kn K) : mr I b = kf K b := (h.2.2 b hb).1
theorem MS_g (h : MS K I) (hb : b < kn K) : mg I b := (h.2.2 b hb).2
theorem MS_0 (h : MS K I) (hb : b < kn K) : I 148 (7 * b + 3) = iI (kf K b 0) := by
  rw [← MS_r h hb]
  exact (iI_to _).symm
theorem MS_1 (h : MS K I) (hb : b < kn K) : I 148 (7 * b + 4) = iI (kf K b 1) := by
  rw [← MS_r h hb]
  exact (iI_to _).symm
theorem MS_2 (h : MS K I) (hb : b < kn K) : I 140 b = iI (kf K b 2) := by
  rw [← MS_r h hb]
  exact (iI_to _).symm
theorem MS_3 (h : MS K I) (hb : b < kn K) : I 148 (7 * b + 5) = iI (kf K b 3) := by
  rw [← MS_r h hb]
  exact (iI_to _).symm
theorem MS_4 (h : MS K I) (hb : b < kn K) : I 148 (7 * b + 6) = iI (kf K b 4) := by
  rw [← MS_r h hb]
  exact (iI_to _).symm
theorem MS_5 (h : MS K I) (hb : b < kn K) : I 148 (7 * b + 7) = iI (kf K b 5) := by
  rw [← MS_r h hb]
  exact (iI_to _).symm
theorem MS_6 (h : MS K I) (hb : b < kn K) : I 141 b = iI (kf K b 6) := by
  rw [← MS_r h hb]
  exact (iI_to _).symm
theorem MS_7 (h : MS K I) (hb : b < kn K) : I 148 (7 * b + 8) = iI (kf K b 7) := by
  rw [← MS_r h hb]
  exact (iI_to _).symm
theorem MS_8 (h : MS K I) (hb : b < kn K) : I 148 (7 * b + 9) = iI (kf K b 8) := by
  rw [← MS_r h hb]
  exact (iI_to _).symm
end PRJ2
/-! what a query may write: the class, the model -/
def W_qb (c : Nat) : Bool := (Nat.ble 80 c && Nat.ble c 82) || (Nat.ble 84 c && Nat.ble c 102) || Nat.beq c 104 || Nat.beq c 128 || Nat.beq c 131 || Nat.beq c 132 || Nat.beq c 135 || Nat.beq c 136 || Nat.beq c 137 || (Nat.ble 3 c && Nat.ble c 15)
def W_q (c k : Nat) : Bool := W_qb c && (!(Nat.beq c 96) || Nat.beq k 9) && (!(Nat.beq c 128) || Nat.ble 2 k) && (!(Nat.beq c 3) || Nat.ble 2 k)
def W_nb (c : Nat) : Bool := Nat.beq c 139 || Nat.beq c 143 || Nat.beq c 144 || Nat.beq c 148 || (Nat.ble 150 c && Nat.ble c 157) || Nat.beq c 160
def W_n (c k : Nat) : Bool := W_nb c && (!(Nat.beq c 139) || !(Nat.ble k 2 || Nat.beq k 12 || Nat.beq k 14 || Nat.beq k 15 || Nat.beq k 24 || Nat.beq k 36 || Nat.beq k 37 || Nat.beq k 41 || Nat.beq k 43)) && (!(Nat.beq c 148) || (Nat.ble 3 k && Nat.ble k 72))
theorem Wq_b {c k : Nat} (h : W_qb c = false) : W_q c k = false := by unfold W_q; rw [h]; rfl
theorem Wn_b {c k : Nat} (h : W_nb c = false) : W_n c k = false := by unfold W_n; rw [h]; rfl
theorem Wq_16 {c : Nat} (h1 : 16 ≤ c) (h2 : c ≤ 79) : W_qb c = false := by
  have e : ∀ c, c < 80 → 16 ≤ c → W_qb c = false := by decide
  exact e c (by omega) h1
theorem Wq_108 {c : Nat} (h1 : 106 ≤ c) (h2 : c ≤ 127) : W_qb c = false := by
  have e : ∀ c, c < 128 → 106 ≤ c → W_qb c = false := by decide
  exact e c (by omega) h1
theorem Wq_138 {c : Nat} (h1 : 138 ≤ c) : W_qb c = false := by
  cases h : W_qb c with
  | false => rfl
  | true =>
    unfold W_qb at h
    simp only [Bool.or_eq_true, Bool.and_eq_true, Nat.ble_eq, Nat.beq_eq] at h
    omega
theorem Wn_138 {c : Nat} (h1 : c ≤ 138) : W_nb c = false := by
  cases h : W_nb c with
  | false => rfl
  | true =>
    unfold W_nb at h
    simp only [Bool.or_eq_true, Bool.and_eq_true, Nat.ble_eq, Nat.beq_eq] at h
    omega
section FRM
variable {K : Sk} {I I' I1 I2 : Nat → Nat → Int32} {J J2 : Nat → Nat → Int64} {n : Nat}
theorem q_16 (h : Fr W_q I I') {c : Nat} (h1 : 16 ≤ c) (h2 : c ≤ 79) (k : Nat) : I' c k = I c k := h c k (Wq_b (Wq_16 h1 h2))
theorem CS_fr (h : CS K I) (f : Fr W_q I I') : CS K I' := by
  have hk := CS_k h
  have hn := K_n hk
  refine ⟨hk, ?_, fun b hb => ?_⟩
  · rw [q_16 f (by omega) (by omega), q_16 f (by omega) (by omega), q_16 f (by omega) (by omega), q_16 f (by omega) (by omega)]
    exact h.2.1
  · have hr := bd_rg (b := b) (by omega)
    have e : ∀ o, o ≤ 5 → ∀ k, I' (am_bd b + o) k = I (am_bd b + o) k := fun o ho k => q_16 f (by omega) (by omega) k
    exact ⟨CB_congr e (CS_B h hb), (cr_congr (e 1 (by omega))).trans (CS_r h hb)⟩
theorem CS_cn (h : CS K I) : cn I = kn K := by
  have hn := K_n (CS_k h)
  unfold cn
  rw [CS_n h, to_iI (by omega) (by omega)]
  omega
/-- what is kept, in terms of the sky -/
theorem C_iff (h : CS K I) : rl_C I ↔ (∀ a b, a < b → b < kn K → I 84 (10 * a + b) = -1 ∨ (I 84 (10 * a + b) = iI (ps_lf (kf K a) (kf K b)) ∧ I 85 (10 * a + b) = iI (ps_cl (kf K a) (kf K b)))) ∧ (∀ a b, a < b → b < kn K → I 80 (10 * a + b) = -1 ∨ ∃ v : Int, I 80 (10 * a + b) = iI v ∧ sv_is (ke K) (kf K a) (kf K b) v) ∧ ∀ k, k < 10 → 0 ≤ (I 104 k).toInt ∧ (I 104 k).toInt < 48 := by
  have he := K_e (CS_k h)
  have ee : (I 16 3).toInt = ke K := by rw [CS_e h, to_iI (by omega) (by omega)]
  unfold rl_C
  rw [CS_cn h, ee]
  constructor
  · rintro ⟨h1, h2, h3⟩
    refine ⟨fun a b hab hb => ?_, fun a b hab hb => ?_, h3⟩
    · have := h1 a b hab hb
      rw [CS_r h (by omega), CS_r h hb] at this
      exact this
    · have := h2 a b hab hb
      rw [CS_r h (by omega), CS_r h hb] at this
      exact this
  · rintro ⟨h1, h2, h3⟩
    refine ⟨fun a b hab hb => ?_, fun a b hab hb => ?_, h3⟩
    · rw [CS_r h (by omega), CS_r h hb]
      exact h1 a b hab hb
    · rw [CS_r h (by omega), CS_r h hb]
      exact h2 a b hab hb
theorem C_fr (h : CS K I) (g : rl_C I) (e84 : ∀ k, I' 84 k = I 84 k) (e85 : ∀ k, I' 85 k = I 85 k) (e80 : ∀ k, I' 80 k = I 80 k) (e104 : ∀ k, I' 104 k = I 104 k) (f : Fr W_q I I') : rl_C I' := by
  rw [C_iff (CS_fr h f)]
  rw [C_iff h] at g
  simp only [e84, e85, e80, e104]
  exact g
theorem MS_fr (h : MS K I) (f : Fr W_q I I') : MS K I' := by
  have e : ∀ c k, 138 ≤ c → I' c k = I c k := fun c k h1 => f c k (Wq_b (Wq_138 h1))
  refine ⟨MS_k h, ?_, fun b hb => ?_⟩
  · rw [e _ _ (by omega), e _ _ (by omega), e _ _ (by omega), e _ _ (by omega)]
    exact h.2.1
  · have er : mr I' b = mr I b := mr_congr (fun k => e _ _ (by omega)) (fun k => e _ _ (by omega)) (fun k => e _ _ (by omega))
    refine ⟨er.trans (MS_r h hb), ?_⟩
    have g := MS_g h hb
    unfold mg at g ⊢
    rw [er]
    simp only [e 150 _ (by omega)]
    exact g
/-- the sky of both -/
theorem Rl_K (h : Rl_ n I J) : CS (kI I) I ∧ MS (kI I) I := by
  have hc := R_CW h
  have hm := R_MW h
  have hs := R_S h
  obtain ⟨⟨c1, c2⟩, ⟨e, e1, e2, e3⟩, ⟨z, z1, z2, z3⟩, ⟨t, t1, t2, t3⟩, _, cb⟩ := hc
  obtain ⟨-, -, s1, s2, s3, s4, -, -, -, s5⟩ := hs
  have ee : (I 16 3).toInt = e := by rw [e1, to_iI (by omega) (by omega)]
  have ez : (I 16 4).toInt = z := by rw [z1, to_iI (by omega) (by omega)]
  have et : (I 16 5).toInt = t := by rw [t1, to_iI (by omega) (by omega)]
  have kfe : ∀ b, b < cn I → kf (kI I) b = cr I b := fun b hb => by
    show (if b < cn I then cr I b else fun _ => 0) = _
    rw [if_pos hb]
  have hk : Kok (kI I) := by
    refine ⟨c2, fun b hb => ?_, ?_, ?_, ?_⟩
    · rw [kfe b hb]
      exact (cb b hb).1
    · show 0 ≤ (I 16 3).toInt ∧ (I 16 3).toInt ≤ 99
      rw [ee]; exact ⟨e2, e3⟩
    · show 0 ≤ (I 16 4).toInt ∧ (I 16 4).toInt ≤ 20
      rw [ez]; exact ⟨z2, z3⟩
    · show 0 ≤ (I 16 5).toInt ∧ (I 16 5).toInt ≤ 9999
      rw [et]; exact ⟨t2, t3⟩
  have i3 : I 16 3 = iI (ke (kI I)) := (iI_to _).symm
  have i4 : I 16 4 = iI (kz (kI I)) := (iI_to _).symm
  have i5 : I 16 5 = iI (kt (kI I)) := (iI_to _).symm
  have emn : mn I = cn I := (R_n h).2.2.2
  refine ⟨⟨hk, ⟨c1, i3, i4, i5⟩, fun b hb => ⟨cb b hb, (kfe b hb).symm⟩⟩, ⟨hk, ⟨?_, ?_, ?_, ?_⟩, fun b hb => ⟨(s5 b hb).trans (kfe b hb).symm, (hm.2 b (by rw [emn]; exact hb)).2⟩⟩⟩
  · rw [s1]; exact c1
  · rw [s2]; exact i4
  · rw [s3]; exact i3
  · rw [s4]; exact i5
/-- behind a query on both sides -/
theorem Rl_q (h : Rl_ n I J) (f1 : Fr W_q I I1) (c1 : rl_C I1) (f2 : Fr W_n I1 I2) (m2 : MS (kI I) I2) : Rl_ (n + 1) I2 J2 := by
  have ea : ∀ c k, W_q c k = false → W_n c k = false → I2 c k = I c k := fun c k q1 q2 => (f2 c k q2).trans (f1 c k q1)
  have eb : ∀ c k, 16 ≤ c → c ≤ 79 → I2 c k = I c k := fun c k h1 h2 => ea c k (Wq_b (Wq_16 h1 h2)) (Wn_b (Wn_138 (by omega)))
  have hk := h
  obtain ⟨g1, g2, g3, g4, g5, g6, g7, g8, g9, g10, g11, g12, g13, g14⟩ := Rl_mono h
  have hK := Rl_K hk
  have e16 : ∀ k, I2 16 k = I 16 k := fun k => eb 16 k (by omega) (by omega)
  have ec : cn I2 = cn I := by unfold cn; rw [e16]
  have e140 : ∀ k, I2 140 k = I 140 k := fun k => ea 140 k rfl rfl
  have e141 : ∀ k, I2 141 k = I 141 k := fun k => ea 141 k rfl rfl
  have ecr : ∀ b, b < cn I → cr I2 b = cr I b := fun b hb' => cr_congr (fun k => by
    have := g7.1.2
    have := bd_rg (b := b) (by omega)
    exact eb _ _ (by omega) (by omega))
  have hmk : kn (kI I) = cn I := rfl
  refine ⟨?_, ?_, ?_, ?_, ?_, ?_, ?_, ?_, ?_, ?_, ?_, ?_, ?_, ?_⟩
  · exact T_congr (ea 1 1 rfl rfl) (fun k => ea 2 k rfl rfl) (ea 139 12 rfl rfl) (fun k => ea 145 k rfl rfl) g1
  · exact F_congr (ea 3 0 rfl rfl) (ea 3 1 rfl rfl) (ea 139 14 rfl rfl) (ea 139 15 rfl rfl) g2
  · exact R_congr (fun k => ea 138 k rfl rfl) (fun k => ea 146 k rfl rfl) g3
  · exact D_congr (ea 106 7 rfl rfl) (ea 139 41 rfl rfl) g4
  · exact M_congr (ea 133 1 rfl rfl) (fun k => ea 134 k rfl rfl) (ea 139 43 rfl rfl) (fun k => ea 161 k rfl rfl) g5
  · intro k hk
    rw [ea 147 k rfl rfl]
    exact g6 k hk
  · exact CW_congr (fun k _ => e16 k) (fun c h1 h2 k => eb c k (by omega) (by omega)) g7
  · have emn : mn I2 = cn I := by
      unfold mn
      rw [ea 139 1 rfl rfl]
      exact (R_n hk).2.2.2
    refine ⟨⟨?_, ?_⟩, fun b hb => ⟨?_, ?_⟩⟩
    · rw [emn, MS_n m2, hmk]
    · rw [emn]; exact g7.1.2
    · rw [MS_r m2 (by show b < cn I; rw [← emn]; exact hb)]
      exact K_f (MS_k m2) (by show b < cn I; rw [← emn]; exact hb)
    · exact MS_g m2 (by show b < cn I; rw [← emn]; exact hb)
  · have e148 : ∀ j, I2 148 (73 + j) = I 148 (73 + j) := fun j => by
      refine ea _ _ rfl ?_
      unfold W_n
      have : Nat.ble (73 + j) 72 = false := by
        cases hh : Nat.ble (73 + j) 72 with
        | false => rfl
        | true => rw [Nat.ble_eq] at hh; omega
      rw [this, Bool.and_false]
      rfl
    unfold rl_S at g9 ⊢
    rw [ec]
    simp only [e16, ea 148 0 rfl rfl, ea 148 1 rfl rfl, ea 148 2 rfl rfl, e148, ea 139 0 rfl rfl, ea 139 1 rfl rfl, ea 139 2 rfl rfl, ea 106 6 rfl rfl, ea 128 1 rfl rfl, eb 18 _ (by omega) (by omega)]
    refine ⟨g9.1, g9.2.1, g9.2.2.1, g9.2.2.2.1, g9.2.2.2.2.1, g9.2.2.2.2.2.1, g9.2.2.2.2.2.2.1, g9.2.2.2.2.2.2.2.1, g9.2.2.2.2.2.2.2.2.1, fun b hb' => ?_⟩
    rw [MS_r m2 hb', ecr b hb', CS_r hK.1 hb']
  · intro b hb'
    rw [ec] at hb'
    have := g7.1.2
    have := bd_rg (b := b) (by omega)
    rw [eb (am_bd b) 0 (by omega) (by omega)]
    refine ⟨(g10 b hb').1, fun i hi => ?_⟩
    rw [ea 142 _ rfl rfl]
    exact (g10 b hb').2 i hi
  · have eu : un I2 = un I := by unfold un; rw [ea 106 6 rfl rfl]
    have eo : uo I2 = uo I := by unfold uo; rw [ea 106 5 rfl rfl]
    have f140 : I2 140 = I 140 := funext e140
    have f141 : I2 141 = I 141 := funext e141
    have f149 : I2 149 = I 149 := funext fun k => ea 149 k rfl rfl
    unfold rl_U at g11 ⊢
    rw [eu, eo, ec, ea 139 24 rfl rfl, ea 106 6 rfl rfl, ea 106 5 rfl rfl, f140, f141, f149]
    refine ⟨g11.1, g11.2.1, g11.2.2.1, fun v hv => ?_⟩
    have er : I2 (108 + (uo I + v) % 20) = I (108 + (uo I + v) % 20) := funext fun k => ea _ k (Wq_b (Wq_108 (by omega) (by omega))) (Wn_b (Wn_138 (by omega)))
    rw [er]
    exact g11.2.2.2 v hv
  · unfold rl_E at g12 ⊢
    rw [ea 139 36 rfl rfl, ea 139 37 rfl rfl, ea 128 0 rfl rfl, ea 128 1 rfl rfl, e16]
    refine ⟨g12.1, g12.2.1, g12.2.2.1, fun k hk => ?_⟩
    rw [ea 158 k rfl rfl, ea 159 k rfl rfl, ea 129 k rfl rfl, ea 130 k rfl rfl]
    exact g12.2.2.2 k hk
  · have e1 : ∀ c k, c ≤ 138 → I2 c k = I1 c k := fun c k h1 => f2 c k (Wn_b (Wn_138 h1))
    have ec1 : cn I2 = cn I1 := by unfold cn; rw [e1 16 2 (by omega)]
    have ec2 : cn I1 = cn I := by unfold cn; rw [f1 16 2 rfl]
    have ecr1 : ∀ b, b < cn I → cr I2 b = cr I1 b := fun b hb' => cr_congr (fun k => by
      have := g7.1.2
      have := bd_rg (b := b) (by omega)
      exact e1 _ _ (by omega))
    unfold rl_C at c1 ⊢
    rw [ec1, e1 16 3 (by omega)]
    rw [ec2] at c1 ⊢
    refine ⟨fun a b hab hb' => ?_, fun a b hab hb' => ?_, fun k hk => ?_⟩
    · rw [ecr1 a (by omega), ecr1 b hb', e1 84 _ (by omega), e1 85 _ (by omega)]
      exact c1.1 a b hab hb'
    · rw [ecr1 a (by omega), ecr1 b hb', e1 80 _ (by omega)]
      exact c1.2.1 a b hab hb'
    · rw [e1 104 k (by omega)]
      exact c1.2.2 k hk
  · have f103 : I2 103 = I 103 := funext fun k => ea 103 k rfl rfl
    have eK : kI I2 = kI I := by
      unfold kI
      rw [ec, e16, e16, e16]
      congr 2
      funext b
      split
      · rename_i hb'
        exact ecr b hb'
      · rfl
    unfold rl_V rl_L at g14 ⊢
    rw [e16, ea 96 8 rfl rfl, ea 96 5 rfl rfl, ea 96 6 rfl rfl, ea 96 7 rfl rfl, f103, eK]
    exact g14
/-- an op that asks: the class answers v and stays in its frame, so does the model -/
theorem op_ask {X : am_X} {mc mm : Nat} {vs : List Value} (hc : ∀ (K : Sk) (I : Nat → Nat → Int32) (J : Nat → Nat → Int64), CS K I → rl_C I → ∃ (v : Int32) (I1 : Nat → Nat → Int32) (J1 : Nat → Nat → Int64), am_do X mc (.ref 0 :: vs) (am_sh I J) = some (some (.int v), am_sh I1 J1) ∧ Fr W_q I I1 ∧ rl_C I1 ∧ ∀ (I' : Nat → Nat → Int32) (J' : Nat → Nat → Int64), MS K I' → ∃ (I2 : Nat → Nat → Int32) (J2 : Nat → Nat → Int64), am_do X mm (.ref 139 :: vs) (am_sh I' J') = some (some (.int v), am_sh I2 J2) ∧ Fr W_n I' I2 ∧ MS K I2) : am_Same X Rl_ mc mm vs := by
  intro n I J hn h
  have hK := Rl_K h
  obtain ⟨v, I1, J1, e1, f1, c1, hm⟩ := hc (kI I) I J hK.1 (R_C h)
  obtain ⟨I2, J2, e2, f2, m2⟩ := hm I1 J1 (MS_fr hK.2 f1)
  exact ⟨v, I1, J1, I2, J2, e1, e2, Rl_q h f1 c1 f2 m2⟩
end FRM
