/-! WHICH STEPS MEET: by the greatest that goes into both turns -/
section CRT
variable {T U s u t : Nat}
theorem md_dvd {g : Nat} (h : g ∣ T) : t % T % g = t % g := Nat.mod_mod_of_dvd t h
theorem lcm_eq (hT : 0 < T) : Nat.lcm T U = T * (U / Nat.gcd T U) := by
  have gp : 0 < Nat.gcd T U := Nat.gcd_pos_of_pos_left _ hT
  obtain ⟨c, hc⟩ := Nat.gcd_dvd_right T U
  have e : U / Nat.gcd T U = c := Nat.div_eq_of_eq_mul_right gp hc
  rw [e]
  unfold Nat.lcm
  refine Nat.div_eq_of_eq_mul_right gp ?_
  rw [Nat.mul_comm T c, ← Nat.mul_assoc, ← hc, Nat.mul_comm]
theorem idx_inj {a b c d m : Nat} (hb : b < m) (hd : d < m) (h : a * m + b = c * m + d) : a = c ∧ b = d := by
  have h1 : (a * m + b) / m = a := by
    rw [Nat.mul_comm, Nat.mul_add_div (by omega), Nat.div_eq_of_lt hb, Nat.add_zero]
  have h2 : (c * m + d) / m = c := by
    rw [Nat.mul_comm, Nat.mul_add_div (by omega), Nat.div_eq_of_lt hd, Nat.add_zero]
  rw [h, h2] at h1
  subst h1
  omega
/-- two steps that fit together are met in the cycle -/
theorem crt (hT : 0 < T) (hU : 0 < U) (hs : s < T) (hu : u < U) (h : s % Nat.gcd T U = u % Nat.gcd T U) : ∃ t, t < Nat.lcm T U ∧ t % T = s ∧ t % U = u := by
  have gp : 0 < Nat.gcd T U := Nat.gcd_pos_of_pos_left _ hT
  have hg1 := Nat.gcd_dvd_left T U
  have hg2 := Nat.gcd_dvd_right T U
  have hl := lcm_eq (U := U) hT
  obtain ⟨c, hc⟩ := hg2
  have ec : U / Nat.gcd T U = c := Nat.div_eq_of_eq_mul_right gp hc
  rw [ec] at hl
  have hdiv : ∀ v, v < U → v / Nat.gcd T U < c := fun v hv => by
    rw [Nat.div_lt_iff_lt_mul gp, Nat.mul_comm, ← hc]
    exact hv
  have hidx : ∀ a v, a < T → v < U → a * c + v / Nat.gcd T U < Nat.lcm T U := fun a v ha hv => by
    have h1 := hdiv v hv
    have h2 : (a + 1) * c ≤ T * c := Nat.mul_le_mul_right c ha
    rw [Nat.add_mul, Nat.one_mul] at h2
    rw [hl]
    omega
  have hx := fb_onto (n := Nat.lcm T U) (f := fun t => t % T * c + t % U / Nat.gcd T U) (fun t _ => hidx _ _ (Nat.mod_lt _ hT) (Nat.mod_lt _ hU)) (fun i j hij hj e => by
    obtain ⟨e1, e2⟩ := idx_inj (hdiv _ (Nat.mod_lt i hU)) (hdiv _ (Nat.mod_lt j hU)) e
    have e3 : i % U % Nat.gcd T U = j % U % Nat.gcd T U := by
      rw [md_dvd (Nat.gcd_dvd_right T U), md_dvd (Nat.gcd_dvd_right T U), ← md_dvd (t := i) hg1, ← md_dvd (t := j) hg1, e1]
    have e4 : i % U = j % U := by
      rw [← Nat.div_add_mod (i % U) (Nat.gcd T U), ← Nat.div_add_mod (j % U) (Nat.gcd T U), e2, e3]
    have d1 : T ∣ j - i := Nat.dvd_of_mod_eq_zero (Nat.sub_mod_eq_zero_of_mod_eq e1.symm)
    have d2 : U ∣ j - i := Nat.dvd_of_mod_eq_zero (Nat.sub_mod_eq_zero_of_mod_eq e4.symm)
    have := Nat.le_of_dvd (by omega) (Nat.lcm_dvd d1 d2)
    omega) (y := s * c + u / Nat.gcd T U) (hidx _ _ hs hu)
  obtain ⟨t, t1, t2⟩ := hx
  obtain ⟨e1, e2⟩ := idx_inj (hdiv _ (Nat.mod_lt t hU)) (hdiv _ hu) t2
  refine ⟨t, t1, e1, ?_⟩
  have e3 : t % U % Nat.gcd T U = u % Nat.gcd T U := by
    rw [md_dvd (Nat.gcd_dvd_right T U), ← md_dvd (t := t) hg1, e1, h]
  rw [← Nat.div_add_mod (t % U) (Nat.gcd T U), e2, e3, Nat.div_add_mod]
end CRT
/-- what goes into both turns -/
def gc (f g : Nat → Int) : Nat := Nat.gcd (f 2).toNat (g 2).toNat
/-- two come near by an offset of their steps -/
def OF (e : Int) (f g : Nat → Int) (k : Int) : Prop := ∃ s u : Nat, (s : Int) < f 2 ∧ (u : Int) < g 2 ∧ ((s : Int) - u) % (gc f g : Int) = k ∧ ps_d f g s u ≤ e * e
section OFS
variable {f g : Nat → Int} {e : Int}
theorem gc_pos (okf : ps_ok f) : 0 < gc f g ∧ gc f g ≤ 48 := by
  have := okf.2.1
  unfold gc
  refine ⟨Nat.gcd_pos_of_pos_left _ (by omega), ?_⟩
  have := Nat.le_of_dvd (show 0 < (f 2).toNat by omega) (Nat.gcd_dvd_left (f 2).toNat (g 2).toNat)
  omega
theorem gc_d1 (okf : ps_ok f) : (gc f g : Int) ∣ f 2 := by
  have := okf.2.1
  have h := Int.natCast_dvd_natCast.mpr (Nat.gcd_dvd_left (f 2).toNat (g 2).toNat)
  rw [show (((f 2).toNat : Nat) : Int) = f 2 by omega] at h
  exact h
theorem gc_d2 (okg : ps_ok g) : (gc f g : Int) ∣ g 2 := by
  have := okg.2.1
  have h := Int.natCast_dvd_natCast.mpr (Nat.gcd_dvd_right (f 2).toNat (g 2).toNat)
  rw [show (((g 2).toNat : Nat) : Int) = g 2 by omega] at h
  exact h
theorem ps_s_gc (okf : ps_ok f) (t : Int) : ps_s f t % (gc f g : Int) = (f 3 + t) % (gc f g : Int) := by
  unfold ps_s
  exact Int.emod_emod_of_dvd _ (gc_d1 okf)
theorem ps_s_gc2 (okg : ps_ok g) (t : Int) : ps_s g t % (gc f g : Int) = (g 3 + t) % (gc f g : Int) := by
  unfold ps_s
  exact Int.emod_emod_of_dvd _ (gc_d2 okg)
theorem em_sub (a b c : Int) : (a - b) % c = (a % c - b % c) % c := Int.sub_emod a b c
theorem nr_OF (okf : ps_ok f) (okg : ps_ok g) : nr_ e f g ↔ OF e f g ((f 3 - g 3) % (gc f g : Int)) := by
  have of := okf.2.1
  have og := okg.2.1
  have pf := okf.2.2.1
  have pg := okg.2.2.1
  have gp := gc_pos (g := g) okf
  constructor
  · rintro ⟨t, t1, t2⟩
    have sf := ps_s_rg okf t
    have sg := ps_s_rg okg t
    refine ⟨(ps_s f t).toNat, (ps_s g t).toNat, by omega, by omega, ?_, ?_⟩
    · rw [show (((ps_s f t).toNat : Nat) : Int) = ps_s f t by omega, show (((ps_s g t).toNat : Nat) : Int) = ps_s g t by omega, em_sub, ps_s_gc okf, ps_s_gc2 okg, ← em_sub]
      congr 1
      omega
    · rw [show (((ps_s f t).toNat : Nat) : Int) = ps_s f t by omega, show (((ps_s g t).toNat : Nat) : Int) = ps_s g t by omega]
      exact t2
  · rintro ⟨s, u, s1, u1, h1, h2⟩
    obtain ⟨T, eT⟩ : ∃ T : Nat, f 2 = T := ⟨(f 2).toNat, by omega⟩
    obtain ⟨U, eU⟩ : ∃ U : Nat, g 2 = U := ⟨(g 2).toNat, by omega⟩
    have eg : gc f g = Nat.gcd T U := by unfold gc; rw [eT, eU]; rfl
    have ec : ps_cy f g = Nat.lcm T U := by unfold ps_cy; rw [eT, eU]; rfl
    -- the ticks from the phases on
    have hs : ((s : Int) - f 3) % (T : Int) = (((s : Int) - f 3) % (T : Int)).toNat := by
      have := Int.emod_nonneg ((s : Int) - f 3) (show (T : Int) ≠ 0 by omega)
      omega
    have hu : ((u : Int) - g 3) % (U : Int) = (((u : Int) - g 3) % (U : Int)).toNat := by
      have := Int.emod_nonneg ((u : Int) - g 3) (show (U : Int) ≠ 0 by omega)
      omega
    have hs2 := Int.emod_lt_of_pos ((s : Int) - f 3) (show 0 < (T : Int) by omega)
    have hu2 := Int.emod_lt_of_pos ((u : Int) - g 3) (show 0 < (U : Int) by omega)
    have hgc : (((s : Int) - f 3) % (T : Int)).toNat % Nat.gcd T U = (((u : Int) - g 3) % (U : Int)).toNat % Nat.gcd T U := by
      have d1 : ((Nat.gcd T U : Nat) : Int) ∣ (T : Int) := Int.natCast_dvd_natCast.mpr (Nat.gcd_dvd_left T U)
      have d2 : ((Nat.gcd T U : Nat) : Int) ∣ (U : Int) := Int.natCast_dvd_natCast.mpr (Nat.gcd_dvd_right T U)
      have : ((s : Int) - f 3) % (T : Int) % (Nat.gcd T U : Nat) = ((u : Int) - g 3) % (U : Int) % (Nat.gcd T U : Nat) := by
        rw [Int.emod_emod_of_dvd _ d1, Int.emod_emod_of_dvd _ d2]
        rw [eg] at h1
        rw [Int.emod_eq_emod_iff_emod_sub_eq_zero] at h1 ⊢
        rw [show (s : Int) - f 3 - ((u : Int) - g 3) = (s : Int) - u - (f 3 - g 3) by omega]
        exact h1
      rw [hs, hu] at this
      exact Int.ofNat.inj (by simpa using this)
    obtain ⟨t, t1, t2, t3⟩ := crt (T := T) (U := U) (by omega) (by omega) (by omega) (by omega) hgc
    refine ⟨t, by rw [ec]; exact t1, ?_⟩
    have q1 : ps_s f t = s := by
      unfold ps_s
      have : ((t : Int) % (T : Int)) = ((s : Int) - f 3) % (T : Int) := by
        rw [hs, ← t2, Int.natCast_emod]
      rw [eT, ← Int.add_emod_emod, this, Int.add_emod_emod, show f 3 + ((s : Int) - f 3) = s by omega]
      exact Int.emod_eq_of_lt (by omega) (by omega)
    have q2 : ps_s g t = u := by
      unfold ps_s
      have : ((t : Int) % (U : Int)) = ((u : Int) - g 3) % (U : Int) := by
        rw [hu, ← t3, Int.natCast_emod]
      rw [eU, ← Int.add_emod_emod, this, Int.add_emod_emod, show g 3 + ((u : Int) - g 3) = u by omega]
      exact Int.emod_eq_of_lt (by omega) (by omega)
    unfold ps_far
    rw [q1, q2]
    exact h2
/-- phases matter by their difference alone -/
theorem ps_d_rs {p q s u : Int} : ps_d (rs f 3 p) (rs g 3 q) s u = ps_d f g s u := rfl
theorem gc_rs {p q : Int} : gc (rs f 3 p) (rs g 3 q) = gc f g := rfl
theorem OF_rs {p q k : Int} : OF e (rs f 3 p) (rs g 3 q) k ↔ OF e f g k := Iff.rfl
theorem rs_ok {p : Int} (ok : ps_ok f) (p0 : 0 ≤ p) (p1 : p < f 2) : ps_ok (rs f 3 p) := ⟨ok.1, ok.2.1, ⟨p0, p1⟩, ok.2.2.2⟩
theorem rs_rs {k : Nat} {p q : Int} : rs (rs f k p) k q = rs f k q := by
  funext j
  unfold rs
  by_cases h : j = k
  · rw [if_pos h, if_pos h]
  · rw [if_neg h, if_neg h, if_neg h]
theorem rs_id {k : Nat} : rs f k (f k) = f := by
  funext j
  unfold rs
  by_cases h : j = k
  · rw [if_pos h, h]
  · rw [if_neg h]
end OFS
