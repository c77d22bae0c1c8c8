/-! THE LAW FROM ITS ENTRY -/
section BND
variable {X : am_X} {P : List (Nat × am_I)} {j : Nat} {ls st : List Value} {S : am_S} {v : Value}
theorem bnd_s : (some (some v, S)).bind (fun q : Option Value × am_S => am_ev X P j ls (q.1.toList ++ st) q.2) = am_ev X P j ls (v :: st) S := rfl
theorem bnd_n : (some ((none : Option Value), S)).bind (fun q : Option Value × am_S => am_ev X P j ls (q.1.toList ++ st) q.2) = am_ev X P j ls st S := rfl
end BND
theorem am_r11_eq : am_r11 = some (none, am_Sa) := by
  have h := am_r11_ok
  unfold am_Sa
  cases hr : am_r11 with
  | none => rw [hr] at h; cases h
  | some r =>
    obtain ⟨v, S⟩ := r
    cases v with
    | none => rfl
    | some v => rw [hr] at h; cases h
theorem am_r12_eq : am_r12 = some (none, am_S1) := by
  have h := am_r12_ok
  unfold am_S1
  cases hr : am_r12 with
  | none => rw [hr] at h; cases h
  | some r =>
    obtain ⟨v, S⟩ := r
    cases v with
    | none => rfl
    | some v => rw [hr] at h; cases h
theorem am_c154 {X : am_X} (hX : X 0 = am_X00 0) : am_do X 154 [.ref 0] (am_mk am_S0 11 13) = some (none, am_Sa) := by
  unfold am_do
  rw [if_pos (show (am_ini (am_G 154) [Value.ref 0]).length = (am_G 154).2.2.1 by decide +kernel)]
  exact am_ev_iff.mpr ⟨4000, am_run0_ok hX _ _ _ _ _ _ _ am_r11_eq⟩
theorem am_c213 {X : am_X} (hX : X 0 = am_X00 0) : am_do X 213 [.ref 139] (am_mk am_Sa 12 44) = some (none, am_S1) := by
  unfold am_do
  rw [if_pos (show (am_ini (am_G 213) [Value.ref 139]).length = (am_G 213).2.2.1 by decide +kernel)]
  exact am_ev_iff.mpr ⟨4000, am_run0_ok hX _ _ _ _ _ _ _ am_r12_eq⟩
theorem am_law_start {X : am_X} (hX : X 0 = am_X00 0) : am_ev X amP_362 0 [.retAddr 2, .null, .null, .null] [] am_S0 = am_ev X amP_362 10 [.retAddr 2, .ref 0, .ref 139, .int 0] [] am_S1 := by
  refine (ev_at (r := (0, 66, 11, 0, 7, [1023, 1024, 1001])) rfl).trans ?_
  show am_ev X amP_362 1 [.retAddr 2, .null, .null, .null] [.ref 0] (am_mk am_S0 11 13) = _
  refine (ev_dupr rfl).trans ?_
  refine (ev_call (m := 154) (vs := [.ref 0]) (st' := [.ref 0]) rfl rfl).trans ?_
  rw [am_c154 hX, bnd_n]
  refine (ev_astore (ls' := [.retAddr 2, .ref 0, .null, .null]) rfl (by decide) rfl).trans ?_
  refine (ev_at (r := (8, 66, 12, 0, 10, [6221, 6222, 1014])) rfl).trans ?_
  show am_ev X amP_362 5 [.retAddr 2, .ref 0, .null, .null] [.ref am_Sa.1.1] (am_mk am_Sa 12 44) = _
  rw [am_Sa_n]
  refine (ev_dupr rfl).trans ?_
  refine (ev_call (m := 213) (vs := [.ref 139]) (st' := [.ref 139]) rfl rfl).trans ?_
  rw [am_c213 hX, bnd_n]
  refine (ev_astore (ls' := [.retAddr 2, .ref 0, .ref 139, .null]) rfl (by decide) rfl).trans ?_
  refine (ev_const0 (v := 0) rfl am_ci_0).trans ?_
  exact ev_istore (ls' := [.retAddr 2, .ref 0, .ref 139, .int 0]) rfl (by decide) rfl
/-- the claim's run out of the ops -/
theorem am_Law_ops {L : Nat} {xs : Nat → Int32} {Rl : Nat → (Nat → Nat → Int32) → (Nat → Nat → Int64) → Prop} (hL : L ≤ 3072) (hops : am_Ops (am_Xs L xs) Rl) (hmono : ∀ n I J, Rl n I J → Rl (n + 1) I J) (h0 : Rl 0 am_S1.2.2.1 am_S1.2.2.2.1) : am_Law L xs := by
  have e2 : (am_Xs L xs 2).1 = L := rfl
  obtain ⟨I', J', h⟩ := am_loop (X := am_Xs L xs) hops hmono (by rw [e2]; exact hL) L 0 _ _ (by rw [e2]; omega) h0
  have h1 : am_ev (am_Xs L xs) (am_G 362).2.2.2.2.1 0 [.retAddr 2, .null, .null, .null] [] am_S0 = some (some (.int 1), am_sh I' J') := by
    show am_ev (am_Xs L xs) amP_362 0 [.retAddr 2, .null, .null, .null] [] am_S0 = _
    rw [am_law_start (X := am_Xs L xs) rfl, am_S1_sh]
    have e0 : nI (6 * 0) = 0 := nI_0
    rw [e0] at h
    exact h
  exact am_Law_of h1 (by show 162 ≤ 600000; omega) (by show 15823 ≤ 7302250; omega)
