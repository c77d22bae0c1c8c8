/-! the own words' codes: the text WORDS read sign by sign -/
section S9t
variable {X : am_X} {P : List (Nat × am_I)} {i pc a b : Nat} {n : Int} {ts : List Nat} {ls st : List Value} {S : am_S} {I : Nat → Nat → Int32} {J : Nat → Nat → Int64}
theorem ev_ldcs (h : P[i]? = some (pc, 58, a, b, n, ts)) : am_ev X P i ls st S = am_ev X P (i + 1) ls (.retAddr 1 :: st) S := by
  rw [ev_at h]
  rfl
theorem ev_gets1 (h : P[i]? = some (pc, 56, a, 1, n, ts)) : am_ev X P i ls st S = am_ev X P (i + 1) ls (.int 1 :: st) S := by
  rw [ev_at h]
  rfl
theorem ev_gets2 (h : P[i]? = some (pc, 56, a, 2, n, ts)) : am_ev X P i ls st S = am_ev X P (i + 1) ls (.retAddr 9 :: st) S := by
  rw [ev_at h]
  rfl
theorem ev_tf1 (h : P[i]? = some (pc, 57, a, 1, n, ts)) : am_ev X P i ls (.retAddr 1 :: st) S = am_ev X P (i + 1) ls (.retAddr 3 :: st) S := by
  rw [ev_at h]
  rfl
theorem ev_tf0 (h : P[i]? = some (pc, 57, a, 0, n, ts)) : am_ev X P i ls (.retAddr 1 :: st) S = am_ev X P (i + 1) ls (.int 0 :: st) S := by
  rw [ev_at h]
  rfl
theorem ev_alenT (h : P[i]? = some (pc, 55, a, b, n, ts)) : am_ev X P i ls (.retAddr 3 :: st) S = am_ev X P (i + 1) ls (.int (Int32.ofNat (X 3).1) :: st) S := by
  rw [ev_at h]
  rfl
theorem ev_zaldT {j : Int32} (h : P[i]? = some (pc, 49, a, b, n, ts)) (hj : ¬ (j < 0 ∨ (X 3).1 ≤ j.toNatClampNeg)) : am_ev X P i ls (.int j :: .retAddr 3 :: st) S = am_ev X P (i + 1) ls (.int ((X 3).2 j.toNatClampNeg) :: st) S := by
  rw [ev_at h]
  have : am_step X (49, a, b, n, ts) i ls (.int j :: .retAddr 3 :: st) S = am_go (i + 1) ls (.int ((X 3).2 j.toNatClampNeg) :: st) S := by
    show (if (3 : Nat) = 3 ∧ ¬ (j < 0 ∨ (X 3).1 ≤ j.toNatClampNeg) then am_go (i + 1) ls (.int ((X 3).2 j.toNatClampNeg) :: st) S else none) = _
    rw [if_pos ⟨rfl, hj⟩]
  show am_kt X P i ls S (am_step X (49, a, b, n, ts) i ls (.int j :: .retAddr 3 :: st) S) = _
  rw [this]
  rfl
theorem ev_invt1 {m : Nat} (h : P[i]? = some (pc, 64, m, 1, n, ts)) (hc : (st.map Value.category).sum ≤ 8) : am_ev X P i ls (.retAddr 1 :: st) S = (am_do X m [.retAddr 1] S).bind (fun q => am_ev X P (i + 1) ls (q.1.toList ++ st) q.2) := by
  refine ev_call h ?_
  show (if 0 < 1 ∧ 1 = 1 then if 1 ≤ (Value.retAddr 1 :: st).length ∧ (st.map Value.category).sum ≤ 8 then some (Sum.inr (Sum.inr (m, [Value.retAddr 1], st))) else none else none) = _
  rw [if_pos ⟨by omega, rfl⟩, if_pos ⟨by simp, hc⟩]
theorem ev_invt2 {m : Nat} {v : Value} (h : P[i]? = some (pc, 64, m, 2, n, ts)) (hc : (st.map Value.category).sum ≤ 8) : am_ev X P i ls (v :: .retAddr 1 :: st) S = (am_do X m [.retAddr 1, v] S).bind (fun q => am_ev X P (i + 1) ls (q.1.toList ++ st) q.2) := by
  refine ev_call h ?_
  show (if 0 < 2 ∧ 1 = 1 then if 2 ≤ (v :: Value.retAddr 1 :: st).length ∧ (st.map Value.category).sum ≤ 8 then some (Sum.inr (Sum.inr (m, [Value.retAddr 1, v], st))) else none else none) = _
  rw [if_pos ⟨by omega, rfl⟩, if_pos ⟨by simp, hc⟩]
theorem ev_bret0 (h : P[i]? = some (pc, 71, a, 2, n, ts)) : am_ev X P i ls [.int 0] S = some (some (.int 0), S) := by
  rw [ev_at h]
  rfl
theorem ev_cret {x : Int32} (h : P[i]? = some (pc, 71, a, 3, n, ts)) (hx : narrow (am_nt 3) (.int x) = .int x) : am_ev X P i ls [.int x] S = some (some (.int x), S) := by
  rw [ev_at h]
  have : am_step X (71, a, 3, n, ts) i ls [.int x] S = some (.inr (.inl (some (.int x), S))) := by
    show (if narrow (am_nt 3) (.int x) = .int x then some (Sum.inr (Sum.inl (some (Value.int x), S))) else none) = _
    rw [if_pos hx]
  show am_kt X P i ls S (am_step X (71, a, 3, n, ts) i ls [.int x] S) = _
  rw [this]
  rfl
theorem c_356 : am_do X 356 [.retAddr 1] S = some (some (.int 0), S) := by
  refine (am_do_of (P := amP_356) (ls := [.retAddr 1]) rfl rfl rfl).trans ?_
  refine (ev_gets1 rfl).trans ?_
  refine (ev_if0 rfl).trans ((if_neg (by decide)).trans ?_)
  refine (ev_aloadS rfl rfl).trans ?_
  refine (ev_tf0 rfl).trans ?_
  refine (ev_goto rfl).trans ?_
  exact ev_bret0 rfl
theorem c_357 : am_do X 357 [.retAddr 1] S = some (some (.int 1), S) := by
  refine (am_do_of (P := amP_357) (ls := [.retAddr 1]) rfl rfl rfl).trans ?_
  refine (ev_gets1 rfl).trans ?_
  refine (ev_if0 rfl).trans ((if_neg (by decide)).trans ?_)
  refine (ev_aloadS rfl rfl).trans ?_
  refine (ev_tf0 rfl).trans ?_
  refine (ev_if1 rfl).trans ((if_neg (by decide)).trans ?_)
  refine (ev_const0 (v := (1 : Int32)) rfl am_ci_1).trans ?_
  refine (ev_goto rfl).trans ?_
  exact ev_zret rfl (by decide)
theorem c_361 {j m : Int32} (h0 : ¬ j < 0) (h1 : j < m) : am_do X 361 [.int j, .int m, .retAddr 9] S = some (some (.int j), S) := by
  refine (am_do_of (P := amP_361) (ls := [.int j, .int m, .retAddr 9]) rfl rfl rfl).trans ?_
  refine (ev_iload rfl rfl).trans ?_
  refine (ev_if2 rfl).trans ((if_neg h0).trans ?_)
  refine (ev_iload rfl rfl).trans ?_
  refine (ev_iload rfl rfl).trans ?_
  refine (ev_icmp2 rfl).trans ((if_pos h1).trans ?_)
  refine (ev_iload rfl rfl).trans ?_
  exact ev_iret rfl
theorem c_358 {j m : Int32} (h0 : ¬ j < 0) (h1 : j < m) : am_do X 358 [.int j, .int m] S = some (none, S) := by
  refine (am_do_of (P := amP_358) (ls := [.int j, .int m]) rfl rfl rfl).trans ?_
  refine (ev_iload rfl rfl).trans ?_
  refine (ev_iload rfl rfl).trans ?_
  refine (ev_gets2 rfl).trans ?_
  refine (ev_invs (as := [.retAddr 9, .int m, .int j]) rfl rfl (by simp)).trans ?_
  rw [show [Value.retAddr 9, Value.int m, Value.int j].reverse = [.int j, .int m, .retAddr 9] from rfl, c_361 h0 h1]
  refine (ev_popi rfl).trans ?_
  exact ev_vret rfl
theorem by_ok : ∀ j, j < 66 → (((am_byt.getD j 0) &&& 255).toUInt32 % 65536).toInt32 = am_byt.getD j 0 ∧ narrow (am_nt 3) (.int (am_byt.getD j 0)) = .int (am_byt.getD j 0) := by decide +kernel
theorem c_359 (hX : X 3 = am_X00 3) {j : Nat} (hj : j < 66) : am_do X 359 [.retAddr 3, .int (iI j)] S = some (some (.int (am_byt.getD j 0)), S) := by
  have x1 : (X 3).1 = 66 := by rw [hX]; rfl
  have x2 : (X 3).2 = fun j => am_byt.getD j 0 := by rw [hX]; rfl
  have l1 : ¬ iI (j : Int) < 0 := by rw [l_0, iI_lt (by omega) (by omega) (by omega) (by omega)]; omega
  have l2 : iI (j : Int) < Int32.ofNat (X 3).1 := by rw [x1, oN, iI_lt (by omega) (by omega) (by omega) (by omega)]; omega
  have ecl : (iI (j : Int)).toNatClampNeg = j := by rw [iI_cl (by omega) (by omega), Int.toNat_natCast]
  obtain ⟨b1, b2⟩ := by_ok j hj
  refine (am_do_of (P := amP_359) (ls := [.retAddr 3, .int (iI j)]) rfl rfl rfl).trans ?_
  refine (ev_iload rfl rfl).trans ?_
  refine (ev_aloadS rfl rfl).trans ?_
  refine (ev_alenT rfl).trans ?_
  refine (ev_invs (as := [.int (Int32.ofNat (X 3).1), .int (iI j)]) rfl rfl (by simp)).trans ?_
  rw [show [Value.int (Int32.ofNat (X 3).1), Value.int (iI j)].reverse = [.int (iI j), .int (Int32.ofNat (X 3).1)] from rfl, c_358 l1 l2]
  refine (ev_aloadS rfl rfl).trans ?_
  refine (ev_iload rfl rfl).trans ?_
  refine (ev_zaldT rfl (by rw [ecl, x1]; rintro (z | z); exact l1 z; omega)).trans ?_
  rw [ecl, x2]
  refine (ev_const2 (v := (255 : Int32)) rfl rfl).trans ?_
  refine (ev_iand rfl).trans ?_
  refine (ev_i2c rfl).trans ?_
  try dsimp only
  rw [b1]
  exact ev_cret rfl b2
theorem c_355 (hX : X 3 = am_X00 3) {j : Nat} (hj : j < 66) : am_do X 355 [.retAddr 1, .int (iI j)] S = some (some (.int (am_byt.getD j 0)), S) := by
  refine (am_do_of (P := amP_355) (ls := [.retAddr 1, .int (iI j)]) rfl rfl rfl).trans ?_
  refine (ev_aloadS rfl rfl).trans ?_
  refine (ev_invt1 rfl (by simp)).trans ?_
  rw [c_357]
  refine (ev_if0 rfl).trans ((if_neg (by decide)).trans ?_)
  refine (ev_aloadS rfl rfl).trans ?_
  refine (ev_tf1 rfl).trans ?_
  refine (ev_iload rfl rfl).trans ?_
  refine (ev_invs (as := [.int (iI j), .retAddr 3]) rfl rfl (by simp)).trans ?_
  rw [show [Value.int (iI j), Value.retAddr 3].reverse = [.retAddr 3, .int (iI j)] from rfl, c_359 hX hj]
  exact ev_cret rfl (by_ok j hj).2
theorem c_354 (hX : X 3 = am_X00 3) : am_do X 354 [.retAddr 1] S = some (some (.int (iI 66)), S) := by
  have x1 : (X 3).1 = 66 := by rw [hX]; rfl
  refine (am_do_of (P := amP_354) (ls := [.retAddr 1]) rfl rfl rfl).trans ?_
  refine (ev_aloadS rfl rfl).trans ?_
  refine (ev_tf1 rfl).trans ?_
  refine (ev_alenT rfl).trans ?_
  refine (ev_aloadS rfl rfl).trans ?_
  refine (ev_invt1 rfl (by simp [Value.category])).trans ?_
  rw [c_356, x1]
  refine (ev_ishr rfl).trans ?_
  exact ev_iret rfl
def ocd (w : Nat) : Nat → Nat → Int32 → Int32
  | 0, _, c => c
  | m + 1, k, c => if am_byt.getD (6 * w + k) 0 = 32 then c else ocd w m (k + 1) (c ||| (((am_byt.getD (6 * w + k) 0 - 97) + 1) <<< ((5 * iI k) &&& 31)))
theorem ev_121 (hX : X 3 = am_X00 3) {w : Nat} (hw : w < 11) : ∀ (m k : Nat) (c : Int32) (v : Value), m + k = 6 → v.category = 1 → am_ev X amP_121 4 [.int (iI w), .int c, .int (iI k), v] [] (am_sh I J) = some (some (.int (ocd w m k c)), am_sh I J) := by
  intro m
  induction m with
  | zero =>
    intro k c v hk hv
    obtain rfl : k = 6 := by omega
    refine (ev_iload rfl rfl).trans ?_
    refine (ev_const1 (v := (6 : Int32)) rfl rfl).trans ?_
    refine (ev_icmp3 rfl).trans ((if_pos (by decide)).trans ?_)
    refine (ev_iload rfl rfl).trans ?_
    exact ev_iret rfl
  | succ m ih =>
    intro k c v hk hv
    have e1 : iI (w : Int) * 6 + iI (k : Int) = iI ((6 * w + k : Nat) : Int) := by
      rw [l_6, iI_mul, iI_add]; congr 1; omega
    have hj : 6 * w + k < 66 := by omega
    have l1 : ¬ iI ((6 * w + k : Nat) : Int) < 0 := by rw [l_0, iI_lt (by omega) (by omega) (by omega) (by omega)]; omega
    have l2 : ¬ iI 66 ≤ iI ((6 * w + k : Nat) : Int) := by rw [iI_le (by omega) (by omega) (by omega) (by omega)]; omega
    have l3 : ¬ (6 : Int32) ≤ iI (k : Int) := by rw [l_6, iI_le (by omega) (by omega) (by omega) (by omega)]; omega
    refine (ev_iload rfl rfl).trans ?_
    refine (ev_const1 (v := (6 : Int32)) rfl rfl).trans ?_
    refine (ev_icmp3 rfl).trans ((if_neg l3).trans ?_)
    refine (ev_iload rfl rfl).trans ?_
    refine (ev_const1 (v := (6 : Int32)) rfl rfl).trans ?_
    refine (ev_imul rfl).trans ?_
    refine (ev_iload rfl rfl).trans ?_
    refine (ev_iadd rfl).trans ?_
    rw [e1]
    refine (ev_istore rfl (by show 3 < 4; omega) rfl).trans ?_
    refine (ev_iload rfl rfl).trans ?_
    refine (ev_if2 rfl).trans ((if_neg l1).trans ?_)
    refine (ev_iload rfl rfl).trans ?_
    refine (ev_ldcs rfl).trans ?_
    refine (ev_invt1 rfl (by simp [Value.category])).trans ?_
    rw [c_354 hX]
    refine (ev_icmp3 rfl).trans ((if_neg l2).trans ?_)
    refine (ev_ldcs rfl).trans ?_
    refine (ev_iload rfl rfl).trans ?_
    refine (ev_invt2 rfl (by simp [Value.category])).trans ?_
    rw [c_355 hX hj]
    refine (ev_const1 (v := (32 : Int32)) rfl rfl).trans ?_
    unfold ocd
    by_cases q : am_byt.getD (6 * w + k) 0 = 32
    · rw [if_pos q]
      refine (ev_icmp1 rfl).trans ((if_neg (fun z => z q)).trans ?_)
      refine (ev_goto rfl).trans ?_
      refine (ev_iload rfl rfl).trans ?_
      exact ev_iret rfl
    · rw [if_neg q]
      refine (ev_icmp1 rfl).trans ((if_pos q).trans ?_)
      refine (ev_iload rfl rfl).trans ?_
      refine (ev_ldcs rfl).trans ?_
      refine (ev_iload rfl rfl).trans ?_
      refine (ev_invt2 rfl (by simp [Value.category])).trans ?_
      rw [c_355 hX hj]
      refine (ev_iload rfl rfl).trans ?_
      refine (ev_invs (as := [.int (iI k), .int (am_byt.getD (6 * w + k) 0)]) rfl rfl (by simp [Value.category])).trans ?_
      rw [show [Value.int (iI k), Value.int (am_byt.getD (6 * w + k) 0)].reverse = [.int (am_byt.getD (6 * w + k) 0), .int (iI k)] from rfl, cl_129, sg_129_e0]
      refine (ev_ior rfl).trans ?_
      refine (ev_istore rfl (by show 1 < 4; omega) rfl).trans ?_
      refine (ev_iincv (v := (1 : Int32)) rfl am_ci_1 rfl rfl).trans ?_
      refine (ev_goto rfl).trans ?_
      have ek : iI (k : Int) + 1 = iI ((k + 1 : Nat) : Int) := by rw [l_1, iI_add]; rfl
      rw [show am_st (am_st (am_st [Value.int (iI ↑w), Value.int c, Value.int (iI ↑k), v] 3 (Value.int (iI ↑(6 * w + k)))) 1 (Value.int (c ||| (am_byt.getD (6 * w + k) 0 - 97 + 1) <<< (5 * iI ↑k &&& 31)))) 2 (Value.int (iI ↑k + 1)) = [Value.int (iI ↑w), Value.int (c ||| (am_byt.getD (6 * w + k) 0 - 97 + 1) <<< (5 * iI ↑k &&& 31)), Value.int (iI ((k + 1 : Nat) : Int)), Value.int (iI ↑(6 * w + k))] by rw [← ek]; rfl]
      exact ih (k + 1) _ _ (by omega) (cat_i _)
/-- the letters of the own word w, and its code -/
def owl (w : Nat) : List Nat := [[7, 1, 16], [19, 9, 26, 5], [2, 15, 4, 25], [12, 15, 23], [8, 9, 7, 8], [20, 21, 18, 14], [16, 8, 1, 19, 5], [12, 9, 6, 20], [20, 9, 12, 20], [14, 15, 4, 5], [6, 21, 5, 12]].getD w []
def owc (w : Nat) : Nat := wcn (fun i => (owl w).getD i 0) (owl w).length
theorem oc_ok : ∀ w, w < 11 → ocd w 6 0 0 = iI (owc w) := by decide +kernel
theorem c_121 (hX : X 3 = am_X00 3) {w : Nat} (hw : w < 11) : am_do X 121 [.int (iI w)] (am_sh I J) = some (some (.int (iI (owc w))), am_sh I J) := by
  refine (am_do_of (P := amP_121) (ls := [.int (iI w), .null, .null, .null]) rfl rfl rfl).trans ?_
  refine (ev_const0 (v := (0 : Int32)) rfl am_ci_0).trans ?_
  refine (ev_istore rfl (by show 1 < 4; omega) rfl).trans ?_
  refine (ev_const0 (v := (0 : Int32)) rfl am_ci_0).trans ?_
  refine (ev_istore rfl (by show 2 < 4; omega) rfl).trans ?_
  have := ev_121 (X := X) (I := I) (J := J) hX hw 6 0 0 .null rfl cat_n
  rw [oc_ok w hw] at this
  exact this
end S9t
