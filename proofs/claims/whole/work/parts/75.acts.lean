/-! ACTS: what an act leaves as it is; what can be undone behind it -/
/-- cells that no act changes -/
def AF (c k : Nat) : Prop := c ≤ 2 ∨ (c = 3 ∧ k ≤ 1) ∨ (c = 16 ∧ (k = 1 ∨ k = 2 ∨ k = 4)) ∨ (19 ≤ c ∧ c ≤ 78 ∧ (c - 19) % 6 = 0 ∧ k = 0) ∨ (c = 96 ∧ k = 8) ∨ (c = 106 ∧ k = 7) ∨ (c = 128 ∧ k ≤ 1) ∨ c = 129 ∨ c = 130 ∨ (c = 133 ∧ k = 1) ∨ c = 134 ∨ c = 138 ∨ (c = 139 ∧ (k ≤ 2 ∨ k = 12 ∨ k = 14 ∨ k = 15 ∨ k = 36 ∨ k = 37 ∨ k = 41 ∨ k = 43)) ∨ c = 140 ∨ c = 141 ∨ c = 142 ∨ c = 145 ∨ c = 146 ∨ c = 147 ∨ c = 158 ∨ c = 159 ∨ c = 161
theorem bd_eq {b : Nat} (h : b < 10) : am_bd b = 19 + 6 * b := by
  unfold am_bd
  rw [if_pos h]
/-- the kept rows of both -/
def KP (I : Nat → Nat → Int32) : Prop := I 148 2 = I 16 6 ∧ (∃ z : Int, I 16 6 = iI z ∧ 0 ≤ z ∧ z ≤ 40) ∧ ∀ j : Nat, (j : Int) < 2 * (I 16 6).toInt → I 148 (73 + j) = I 18 j
theorem Rl_act {n : Nat} {K : Sk} {I I' : Nat → Nat → Int32} {J J' : Nat → Nat → Int64} (g : Rl_ n I J) (hn : n < 512) (t0 : I 16 1 ≠ 0) (hf : ∀ c k, AF c k → I' c k = I c k) (hc : CS K I') (hm : MS K I') (kp : KP I') (hU : rl_U I') (hC : rl_C I') (hv : I' 16 8 = iI ((I 16 8).toInt + 1)) : Rl_ (n + 1) I' J' := by
  obtain ⟨g1, g2, g3, g4, g5, g6, g7, g8, g9, g10, g11, g12, g13, g14⟩ := g
  have h : ∀ c k, AF c k → I' c k = I c k := hf
  unfold AF at h
  have ec : cn I' = cn I := by unfold cn; rw [h 16 2 (by omega)]
  have hk := K_n (CS_k hc)
  have ek := CS_cn hc
  have hK := CS_k hc
  refine ⟨?_, F_congr (h 3 0 (by omega)) (h 3 1 (by omega)) (h 139 14 (by omega)) (h 139 15 (by omega)) g2, R_congr (fun k => h 138 k (by omega)) (fun k => h 146 k (by omega)) g3, D_congr (h 106 7 (by omega)) (h 139 41 (by omega)) g4, M_congr (h 133 1 (by omega)) (fun k => h 134 k (by omega)) (h 139 43 (by omega)) (fun k => h 161 k (by omega)) g5, ?_, ?_, ?_, ?_, ?_, hU, ?_, hC, ?_⟩
  · exact T_congr (h 1 1 (by omega)) (fun k => h 2 k (by omega)) (h 139 12 (by omega)) (fun k => h 145 k (by omega)) g1
  · intro k hk
    rw [h 147 k (by omega)]
    exact g6 k hk
  · have he := K_e hK
    have hz := K_z hK
    have ht := K_t hK
    refine ⟨⟨by rw [ek]; exact CS_n hc, by omega⟩, ⟨_, CS_e hc, by omega, by omega⟩, ⟨_, CS_z hc, by omega, by omega⟩, ⟨_, CS_t hc, by omega, by omega⟩, kp.2.1, fun b hb => ?_⟩
    rw [ek] at hb
    exact CS_B hc hb
  · have em : mn I' = kn K := by
      unfold mn
      rw [MS_n hm, to_iI (by omega) (by omega)]
      omega
    refine ⟨⟨by rw [em]; exact MS_n hm, by omega⟩, fun b hb => ?_⟩
    rw [em] at hb
    refine ⟨?_, MS_g hm hb⟩
    rw [MS_r hm hb]
    exact K_f hK hb
  · unfold rl_S at g9 ⊢
    rw [h 16 1 (by omega), h 139 0 (by omega)]
    refine ⟨g9.1, g9.2.1, ?_, ?_, ?_, ?_, kp.1, kp.2.2, fun z => absurd z t0, fun b hb' => ?_⟩
    · rw [MS_n hm, CS_n hc]
    · rw [MS_z hm, CS_z hc]
    · rw [MS_e hm, CS_e hc]
    · rw [MS_t hm, CS_t hc]
    · rw [ek] at hb'
      rw [MS_r hm hb', CS_r hc hb']
  · intro b hb'
    rw [ec] at hb'
    have := g7.1.2
    have hbd := bd_eq (b := b) (by omega)
    rw [hbd, h (19 + 6 * b) 0 (by omega), ← hbd]
    refine ⟨(g10 b hb').1, fun i hi => ?_⟩
    rw [h 142 _ (by omega)]
    exact (g10 b hb').2 i hi
  · unfold rl_E at g12 ⊢
    rw [h 139 36 (by omega), h 139 37 (by omega), h 128 0 (by omega), h 128 1 (by omega), h 16 2 (by omega)]
    refine ⟨g12.1, g12.2.1, g12.2.2.1, fun k hk => ?_⟩
    rw [h 158 k (by omega), h 159 k (by omega), h 129 k (by omega), h 130 k (by omega)]
    exact g12.2.2.2 k hk
  · obtain ⟨⟨v1, v2⟩, v3, -⟩ := g14
    have e : (I' 16 8).toInt = (I 16 8).toInt + 1 := by rw [hv, to_iI (by omega) (by omega)]
    unfold rl_V rl_L
    rw [e, h 96 8 (by omega)]
    refine ⟨⟨by omega, by omega⟩, by omega, fun z => ?_⟩
    rw [z, e] at v3
    omega
/-- the newest saved row of the class; of the model -/
def SVc (I0 : Nat → Nat → Int32) (u : Nat → Int32) : Prop := (∀ b, b < cn I0 → ∀ k, k < 9 → u (9 * b + k) = I0 (am_bd b + 1) k) ∧ u 90 = I0 16 3 ∧ u 91 = I0 16 5 ∧ u 92 = I0 16 6 ∧ ∀ j, j < 80 → u (93 + j) = I0 18 j
/-- begun: the class, the model -/
def BGc (I0 I : Nat → Nat → Int32) : Prop := SVc I0 (I (108 + (uo I0 + un I0) % 20)) ∧ (∀ s, s < 20 → s ≠ (uo I0 + un I0) % 20 → ∀ k, I (108 + s) k = I0 (108 + s) k) ∧ ((un I0 = 20 ∧ I 106 5 = iI ((uo I0 + 1) % 20 : Nat) ∧ I 106 6 = iI 20) ∨ (un I0 < 20 ∧ I 106 5 = iI (uo I0) ∧ I 106 6 = iI (un I0 + 1 : Nat)))
def BGm (I0 I : Nat → Nat → Int32) : Prop := (un I0 = 20 ∧ I 139 24 = iI 20 ∧ (∀ v j, v < 19 → j < 153 → I 149 (153 * v + j) = I0 149 (153 * (v + 1) + j)) ∧ ∀ j, j < 153 → I 149 (153 * 19 + j) = I0 148 j) ∨ (un I0 < 20 ∧ I 139 24 = iI (un I0 + 1 : Nat) ∧ (∀ v j, v < un I0 → j < 153 → I 149 (153 * v + j) = I0 149 (153 * v + j)) ∧ ∀ j, j < 153 → I 149 (153 * un I0 + j) = I0 148 j)
theorem mrw_cg {m m' tn nd : Nat → Int32} {b : Nat} (hb : b < 10) (h : ∀ j, j < 153 → m' j = m j) : mrw m' tn nd b = mrw m tn nd b := by
  unfold mrw
  rw [h (7 * b + 3) (by omega), h (7 * b + 4) (by omega), h (7 * b + 5) (by omega), h (7 * b + 6) (by omega), h (7 * b + 7) (by omega), h (7 * b + 8) (by omega), h (7 * b + 9) (by omega)]
theorem sn_cg {c : Nat} {tn nd u u' m m' : Nat → Int32} (hc : c ≤ 10) (g : sn_ c tn nd u m) (hu : ∀ k, u' k = u k) (hm : ∀ j, j < 153 → m' j = m j) : sn_ c tn nd u' m' := by
  have eu : u' = u := funext hu
  subst eu
  obtain ⟨g1, g2, g3, g4, g5⟩ := g
  refine ⟨fun b hb => ?_, ?_, ?_, ?_, fun j hj => ?_⟩
  · rw [mrw_cg (by omega) hm]
    exact g1 b hb
  · rw [hm 0 (by omega)]; exact g2
  · rw [hm 1 (by omega)]; exact g3
  · rw [hm 2 (by omega)]; exact g4
  · obtain ⟨z, z1, z2, z3⟩ := g4.2
    have : (u' 92).toInt = z := by rw [z1, to_iI (by omega) (by omega)]
    rw [hm (73 + j) (by omega)]
    exact g5 j hj
/-- the sky as it was, saved by both -/
theorem sn_new {n : Nat} {I : Nat → Nat → Int32} {J : Nat → Nat → Int64} (g : Rl_ n I J) {u m : Nat → Int32} (hu : SVc I u) (hm : ∀ j, j < 153 → m j = I 148 j) : sn_ (cn I) (I 140) (I 141) u m := by
  obtain ⟨u1, u2, u3, u4, u5⟩ := hu
  obtain ⟨⟨c1, c2⟩, ce, cz, ct, ck', cb⟩ := R_CW g
  obtain ⟨-, -, s1, s2, s3, s4, s5, s6, -, s7⟩ := R_S g
  have er : ∀ b, b < cn I → sr u b = cr I b := fun b hb => by
    funext k
    unfold sr cr
    split
    · rw [u1 b hb k (by omega)]
    · rfl
  refine ⟨fun b hb => ?_, ?_, ?_, ?_, fun j hj => ?_⟩
  · rw [mrw_cg (by omega) hm, er b hb]
    exact ⟨s7 b hb, (cb b hb).1⟩
  · rw [hm 0 (by omega), u2, s3]
    exact ⟨rfl, ce⟩
  · rw [hm 1 (by omega), u3, s4]
    exact ⟨rfl, ct⟩
  · rw [hm 2 (by omega), u4, s5]
    exact ⟨rfl, ck'⟩
  · rw [u4] at hj
    obtain ⟨z, z1, z2, z3⟩ := ck'
    have : (I 16 6).toInt = z := by rw [z1, to_iI (by omega) (by omega)]
    rw [hm (73 + j) (by omega), u5 j (by omega)]
    exact s6 j hj
theorem U_act {n : Nat} {I I' : Nat → Nat → Int32} {J : Nat → Nat → Int64} (g : Rl_ n I J) (hc : BGc I I') (hm : BGm I I') (e2 : I' 16 2 = I 16 2) (e140 : ∀ k, I' 140 k = I 140 k) (e141 : ∀ k, I' 141 k = I 141 k) : rl_U I' := by
  obtain ⟨r1, ⟨r2, r3⟩, ⟨r4, r5⟩, r6⟩ := R_U g
  have cn10 := (R_n g).2.1
  obtain ⟨h1, h2, h3⟩ := hc
  have ec : cn I' = cn I := by unfold cn; rw [e2]
  have f140 : I' 140 = I 140 := funext e140
  have f141 : I' 141 = I 141 := funext e141
  unfold rl_U
  rw [ec, f140, f141]
  rcases h3 with ⟨a1, a2, a3⟩ | ⟨a1, a2, a3⟩
  · rcases hm with ⟨b1, b2, b3, b4⟩ | ⟨b1, _⟩
    · have eu : un I' = 20 := by unfold un; rw [a3]; rfl
      have eo : uo I' = (uo I + 1) % 20 := by
        unfold uo
        rw [a2, to_iI (by omega) (by omega)]
        unfold uo
        omega
      rw [eu, eo, a2, a3, b2]
      refine ⟨rfl, ⟨rfl, by omega⟩, ⟨rfl, by omega⟩, fun v hv => ?_⟩
      by_cases y : v = 19
      · subst y
        have es : ((uo I + 1) % 20 + 19) % 20 = (uo I + un I) % 20 := by omega
        rw [es]
        exact sn_new g h1 b4
      · have es : ((uo I + 1) % 20 + v) % 20 = (uo I + (v + 1)) % 20 := by omega
        rw [es]
        exact sn_cg cn10 (r6 (v + 1) (by omega)) (fun k => h2 _ (by omega) (by omega) k) (fun j hj => b3 v j (by omega) hj)
    · omega
  · rcases hm with ⟨b1, _⟩ | ⟨b1, b2, b3, b4⟩
    · omega
    · have eu : un I' = un I + 1 := by
        unfold un
        rw [a3, to_iI (by omega) (by omega)]
        unfold un
        omega
      have eo : uo I' = uo I := by
        unfold uo
        rw [a2, to_iI (by omega) (by omega)]
        unfold uo
        omega
      rw [eu, eo, a2, a3, b2]
      refine ⟨rfl, ⟨rfl, by omega⟩, ⟨rfl, by omega⟩, fun v hv => ?_⟩
      by_cases y : v = un I
      · subst y
        exact sn_new g h1 b4
      · exact sn_cg cn10 (r6 v (by omega)) (fun k => h2 _ (by omega) (by omega) k) (fun j hj => b3 v j (by omega) hj)
