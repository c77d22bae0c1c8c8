/-! op sky (2) -/
theorem sh_inj {I I' : Nat → Nat → Int32} {J J' : Nat → Nat → Int64} (h : am_sh I J = am_sh I' J') : I = I' := congrArg (fun S : am_S => S.2.2.1) h
theorem RDN_cg {n : Nat} {f : Nat → Int} {r : Nat → Nat → Int} {g z : Int} {I I' Im : Nat → Nat → Int32} (R : RDN n f r g z I Im) (e : ∀ c k, c ≠ 1 → I' c k = I c k) : RDN n f r g z I' Im := by
  obtain ⟨⟨y1, y2, y3, y4⟩, y5, y6, y7, y8, y9, y10⟩ := R
  refine ⟨⟨(e _ _ (by omega)).trans y1, y2, y3, fun j hj => ?_⟩, y5, y6, (e _ _ (by omega)).trans y7, (e _ _ (by omega)).trans y8, y9, y10⟩
  obtain ⟨⟨o1, o2⟩, o3, o4, o5, o6⟩ := y4 j hj
  exact ⟨⟨(e _ _ (by omega)).trans o1, o2⟩, o3, o4, fun k hk => (e _ _ (by omega)).trans (o5 k hk), o6⟩
/-- a new sky: class and model in step -/
theorem Rl_sky {n : Nat} {K : Sk} {I F : Nat → Nat → Int32} {J J' : Nat → Nat → Int64} (h : Rl_ n I J) (hn : n < 512) (hc : CS K F) (hm : MS K F) (t1 : F 1 1 = iI 0) (t2 : F 139 12 = iI 0) (hF : rl_F F) (e : ∀ c k, (c = 138 ∨ c = 146 ∨ c = 133 ∨ c = 134 ∨ c = 161 ∨ c = 147 ∨ c = 104 ∨ c = 103 ∨ c = 96 ∨ (c = 106 ∧ k = 7) ∨ (c = 139 ∧ (k = 41 ∨ k = 43))) → F c k = I c k) (s1 : F 16 1 = iI 1) (s2 : F 139 0 = iI 1) (s3 : F 148 2 = iI 0) (s4 : F 16 6 = iI 0) (hN : ∀ b, b < kn K → ∃ N : Int, F (am_bd b) 0 = iI N ∧ (0 < N ∧ N < 1073741824) ∧ ∀ i, i < 6 → F 142 (6 * b + i) = iI (N / 2 ^ (5 * i) % 32)) (u1 : F 139 24 = iI 0) (u2 : F 106 5 = iI 0) (u3 : F 106 6 = iI 0) (v1 : F 139 36 = iI 0) (v2 : F 128 1 = iI 0) (hC : rl_C F) (hv : F 16 8 = iI ((I 16 8).toInt + 1)) : Rl_ (n + 1) F J' := by
  obtain ⟨g1, g2, g3, g4, g5, g6, g7, g8, g9, g10, g11, g12, g13, g14⟩ := h
  have hk := K_n (CS_k hc)
  have ek := CS_cn hc
  have hK := CS_k hc
  have q0 : (iI 0).toInt = 0 := rfl
  refine ⟨hT0 t1 t2, hF, R_congr (fun k => e 138 k (by omega)) (fun k => e 146 k (by omega)) g3, D_congr (e 106 7 (by omega)) (e 139 41 (by omega)) g4, M_congr (e 133 1 (by omega)) (fun k => e 134 k (by omega)) (e 139 43 (by omega)) (fun k => e 161 k (by omega)) g5, ?_, ?_, ?_, ?_, ?_, ?_, ?_, hC, ?_⟩
  · intro k hk
    rw [e 147 k (by omega)]
    exact g6 k hk
  · have he := K_e hK
    have hz := K_z hK
    have ht := K_t hK
    refine ⟨⟨by rw [ek]; exact CS_n hc, by omega⟩, ⟨_, CS_e hc, by omega, by omega⟩, ⟨_, CS_z hc, by omega, by omega⟩, ⟨_, CS_t hc, by omega, by omega⟩, ⟨0, s4, by omega, by omega⟩, fun b hb => ?_⟩
    rw [ek] at hb
    exact CS_B hc hb
  · have em : mn F = kn K := by
      unfold mn
      rw [MS_n hm, to_iI (by omega) (by omega)]
      omega
    refine ⟨⟨by rw [em]; exact MS_n hm, by omega⟩, fun b hb => ?_⟩
    rw [em] at hb
    refine ⟨?_, MS_g hm hb⟩
    rw [MS_r hm hb]
    exact K_f hK hb
  · refine ⟨Or.inr s1, by rw [s1, s2], ?_, ?_, ?_, ?_, by rw [s3, s4], fun j hj => ?_, fun z => ?_, fun b hb' => ?_⟩
    · rw [MS_n hm, CS_n hc]
    · rw [MS_z hm, CS_z hc]
    · rw [MS_e hm, CS_e hc]
    · rw [MS_t hm, CS_t hc]
    · rw [s4, q0] at hj; omega
    · rw [s1] at z; exact absurd z (by decide)
    · rw [ek] at hb'
      rw [MS_r hm hb', CS_r hc hb']
  · intro b hb'
    rw [ek] at hb'
    obtain ⟨N, a1, a2, a3⟩ := hN b hb'
    rw [a1, to_iI (by omega) (by omega)]
    exact ⟨a2, a3⟩
  · have eu : un F = 0 := by unfold un; rw [u3]; rfl
    have eo : uo F = 0 := by unfold uo; rw [u2]; rfl
    unfold rl_U
    rw [eu, eo, u3, u2, u1]
    exact ⟨rfl, ⟨rfl, by omega⟩, ⟨rfl, by omega⟩, fun v hv => by omega⟩
  · unfold rl_E
    rw [v1, v2, q0]
    exact ⟨rfl, by omega, fun z => by omega, fun k hk => by omega⟩
  · obtain ⟨⟨y1, y2⟩, y3, -⟩ := g14
    obtain ⟨v, ev⟩ : ∃ v : Int, (I 16 8).toInt = v := ⟨_, rfl⟩
    rw [ev] at hv y1 y2 y3
    have e8 : (F 16 8).toInt = v + 1 := by rw [hv, to_iI (by omega) (by omega)]
    have e9 : F 96 8 = I 96 8 := e _ _ (by omega)
    refine ⟨by rw [e8]; omega, by rw [e8, e9]; omega, fun w => ?_⟩
    have : (F 96 8).toInt = (F 16 8).toInt := by rw [w]
    rw [e8, e9] at this
    omega
