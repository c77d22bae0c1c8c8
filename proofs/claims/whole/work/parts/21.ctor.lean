/-! THE CONSTRUCTORS, by computation: a run that never looks at an old cell is the same whatever these hold -/
def am_sp (v : Value) : Bool := match v with
  | .retAddr t => decide (¬ t = 0)
  | _ => false
def am_X00 : am_X := am_Xs 0 (fun _ => 0)
def am_step0 (q : am_I) (i : Nat) (ls st : List Value) (S : am_S) : Option am_R := if (q.1 = 47 ∨ q.1 = 49 ∨ q.1 = 55) ∧ st.any am_sp = true then none else am_step am_X00 q i ls st S
theorem am_step0_ok {X : am_X} (hX : X 0 = am_X00 0) {q : am_I} {i : Nat} {ls st : List Value} {S : am_S} {r : am_R} (h : am_step0 q i ls st S = some r) : am_step X q i ls st S = some r := by
  unfold am_step0 at h
  split at h
  · cases h
  · rename_i hn
    have e47 : q.1 = 47 → am_x_iald X q i ls st S = am_x_iald am_X00 q i ls st S := fun e => by
      unfold am_x_iald
      split
      · rfl
      · rename_i t _
        by_cases ht : t = 0
        · subst ht
          rw [hX]
        · exact absurd ⟨Or.inl e, by simp [am_sp, ht]⟩ hn
      · rfl
    have e49 : q.1 = 49 → am_x_zald X q i ls st S = am_x_zald am_X00 q i ls st S := fun e => by
      unfold am_x_zald
      split
      · rfl
      · rename_i t _
        by_cases ht : t = 0
        · subst ht
          rw [hX]
        · exact absurd ⟨Or.inr (Or.inl e), by simp [am_sp, ht]⟩ hn
      · rfl
    have e55 : q.1 = 55 → am_x_alen X q i ls st S = am_x_alen am_X00 q i ls st S := fun e => by
      unfold am_x_alen
      split
      · rfl
      · rename_i t _
        by_cases ht : t = 0
        · subst ht
          rw [hX]
        · exact absurd ⟨Or.inr (Or.inr e), by simp [am_sp, ht]⟩ hn
      · rfl
    rw [← h]
    unfold am_step
    by_cases h0 : q.1 = 0
    · rw [if_pos h0, if_pos h0]
      rfl
    rw [if_neg h0, if_neg h0]
    by_cases h1 : q.1 = 1
    · rw [if_pos h1, if_pos h1]
      rfl
    rw [if_neg h1, if_neg h1]
    by_cases h2 : q.1 = 2
    · rw [if_pos h2, if_pos h2]
      rfl
    rw [if_neg h2, if_neg h2]
    by_cases h3 : q.1 = 3
    · rw [if_pos h3, if_pos h3]
      rfl
    rw [if_neg h3, if_neg h3]
    by_cases h4 : q.1 = 4
    · rw [if_pos h4, if_pos h4]
      rfl
    rw [if_neg h4, if_neg h4]
    by_cases h5 : q.1 = 5
    · rw [if_pos h5, if_pos h5]
      rfl
    rw [if_neg h5, if_neg h5]
    by_cases h6 : q.1 = 6
    · rw [if_pos h6, if_pos h6]
      rfl
    rw [if_neg h6, if_neg h6]
    by_cases h7 : q.1 = 7
    · rw [if_pos h7, if_pos h7]
      rfl
    rw [if_neg h7, if_neg h7]
    by_cases h8 : q.1 = 8
    · rw [if_pos h8, if_pos h8]
      rfl
    rw [if_neg h8, if_neg h8]
    by_cases h9 : q.1 = 9
    · rw [if_pos h9, if_pos h9]
      rfl
    rw [if_neg h9, if_neg h9]
    by_cases h10 : q.1 = 10
    · rw [if_pos h10, if_pos h10]
      rfl
    rw [if_neg h10, if_neg h10]
    by_cases h11 : q.1 = 11
    · rw [if_pos h11, if_pos h11]
      rfl
    rw [if_neg h11, if_neg h11]
    by_cases h12 : q.1 = 12
    · rw [if_pos h12, if_pos h12]
      rfl
    rw [if_neg h12, if_neg h12]
    by_cases h13 : q.1 = 13
    · rw [if_pos h13, if_pos h13]
      rfl
    rw [if_neg h13, if_neg h13]
    by_cases h14 : q.1 = 14
    · rw [if_pos h14, if_pos h14]
      rfl
    rw [if_neg h14, if_neg h14]
    by_cases h15 : q.1 = 15
    · rw [if_pos h15, if_pos h15]
      rfl
    rw [if_neg h15, if_neg h15]
    by_cases h16 : q.1 = 16
    · rw [if_pos h16, if_pos h16]
      rfl
    rw [if_neg h16, if_neg h16]
    by_cases h17 : q.1 = 17
    · rw [if_pos h17, if_pos h17]
      rfl
    rw [if_neg h17, if_neg h17]
    by_cases h18 : q.1 = 18
    · rw [if_pos h18, if_pos h18]
      rfl
    rw [if_neg h18, if_neg h18]
    by_cases h19 : q.1 = 19
    · rw [if_pos h19, if_pos h19]
      rfl
    rw [if_neg h19, if_neg h19]
    by_cases h20 : q.1 = 20
    · rw [if_pos h20, if_pos h20]
      rfl
    rw [if_neg h20, if_neg h20]
    by_cases h21 : q.1 = 21
    · rw [if_pos h21, if_pos h21]
      rfl
    rw [if_neg h21, if_neg h21]
    by_cases h22 : q.1 = 22
    · rw [if_pos h22, if_pos h22]
      rfl
    rw [if_neg h22, if_neg h22]
    by_cases h23 : q.1 = 23
    · rw [if_pos h23, if_pos h23]
      rfl
    rw [if_neg h23, if_neg h23]
    by_cases h24 : q.1 = 24
    · rw [if_pos h24, if_pos h24]
      rfl
    rw [if_neg h24, if_neg h24]
    by_cases h25 : q.1 = 25
    · rw [if_pos h25, if_pos h25]
      rfl
    rw [if_neg h25, if_neg h25]
    by_cases h26 : q.1 = 26
    · rw [if_pos h26, if_pos h26]
      rfl
    rw [if_neg h26, if_neg h26]
    by_cases h27 : q.1 = 27
    · rw [if_pos h27, if_pos h27]
      rfl
    rw [if_neg h27, if_neg h27]
    by_cases h28 : q.1 = 28
    · rw [if_pos h28, if_pos h28]
      rfl
    rw [if_neg h28, if_neg h28]
    by_cases h29 : q.1 = 29
    · rw [if_pos h29, if_pos h29]
      rfl
    rw [if_neg h29, if_neg h29]
    by_cases h30 : q.1 = 30
    · rw [if_pos h30, if_pos h30]
      rfl
    rw [if_neg h30, if_neg h30]
    by_cases h31 : q.1 = 31
    · rw [if_pos h31, if_pos h31]
      rfl
    rw [if_neg h31, if_neg h31]
    by_cases h32 : q.1 = 32
    · rw [if_pos h32, if_pos h32]
      rfl
    rw [if_neg h32, if_neg h32]
    by_cases h33 : q.1 = 33
    · rw [if_pos h33, if_pos h33]
      rfl
    rw [if_neg h33, if_neg h33]
    by_cases h34 : q.1 = 34
    · rw [if_pos h34, if_pos h34]
      rfl
    rw [if_neg h34, if_neg h34]
    by_cases h35 : q.1 = 35
    · rw [if_pos h35, if_pos h35]
      rfl
    rw [if_neg h35, if_neg h35]
    by_cases h36 : q.1 = 36
    · rw [if_pos h36, if_pos h36]
      rfl
    rw [if_neg h36, if_neg h36]
    by_cases h37 : q.1 = 37
    · rw [if_pos h37, if_pos h37]
      rfl
    rw [if_neg h37, if_neg h37]
    by_cases h38 : q.1 = 38
    · rw [if_pos h38, if_pos h38]
      rfl
    rw [if_neg h38, if_neg h38]
    by_cases h39 : q.1 = 39
    · rw [if_pos h39, if_pos h39]
      rfl
    rw [if_neg h39, if_neg h39]
    by_cases h40 : q.1 = 40
    · rw [if_pos h40, if_pos h40]
      rfl
    rw [if_neg h40, if_neg h40]
    by_cases h41 : q.1 = 41
    · rw [if_pos h41, if_pos h41]
      rfl
    rw [if_neg h41, if_neg h41]
    by_cases h42 : q.1 = 42
    · rw [if_pos h42, if_pos h42]
      rfl
    rw [if_neg h42, if_neg h42]
    by_cases h43 : q.1 = 43
    · rw [if_pos h43, if_pos h43]
      rfl
    rw [if_neg h43, if_neg h43]
    by_cases h44 : q.1 = 44
    · rw [if_pos h44, if_pos h44]
      rfl
    rw [if_neg h44, if_neg h44]
    by_cases h45 : q.1 = 45
    · rw [if_pos h45, if_pos h45]
      rfl
    rw [if_neg h45, if_neg h45]
    by_cases h46 : q.1 = 46
    · rw [if_pos h46, if_pos h46]
      rfl
    rw [if_neg h46, if_neg h46]
    by_cases h47 : q.1 = 47
    · rw [if_pos h47, if_pos h47]
      exact e47 h47
    rw [if_neg h47, if_neg h47]
    by_cases h48 : q.1 = 48
    · rw [if_pos h48, if_pos h48]
      rfl
    rw [if_neg h48, if_neg h48]
    by_cases h49 : q.1 = 49
    · rw [if_pos h49, if_pos h49]
      exact e49 h49
    rw [if_neg h49, if_neg h49]
    by_cases h50 : q.1 = 50
    · rw [if_pos h50, if_pos h50]
      rfl
    rw [if_neg h50, if_neg h50]
    by_cases h51 : q.1 = 51
    · rw [if_pos h51, if_pos h51]
      rfl
    rw [if_neg h51, if_neg h51]
    by_cases h52 : q.1 = 52
    · rw [if_pos h52, if_pos h52]
      rfl
    rw [if_neg h52, if_neg h52]
    by_cases h53 : q.1 = 53
    · rw [if_pos h53, if_pos h53]
      rfl
    rw [if_neg h53, if_neg h53]
    by_cases h54 : q.1 = 54
    · rw [if_pos h54, if_pos h54]
      rfl
    rw [if_neg h54, if_neg h54]
    by_cases h55 : q.1 = 55
    · rw [if_pos h55, if_pos h55]
      exact e55 h55
    rw [if_neg h55, if_neg h55]
    by_cases h56 : q.1 = 56
    · rw [if_pos h56, if_pos h56]
      rfl
    rw [if_neg h56, if_neg h56]
    by_cases h57 : q.1 = 57
    · rw [if_pos h57, if_pos h57]
      rfl
    rw [if_neg h57, if_neg h57]
    by_cases h58 : q.1 = 58
    · rw [if_pos h58, if_pos h58]
      rfl
    rw [if_neg h58, if_neg h58]
    by_cases h60 : q.1 = 60
    · rw [if_pos h60, if_pos h60]
      rfl
    rw [if_neg h60, if_neg h60]
    by_cases h61 : q.1 = 61
    · rw [if_pos h61, if_pos h61]
      rfl
    rw [if_neg h61, if_neg h61]
    by_cases h62 : q.1 = 62
    · rw [if_pos h62, if_pos h62]
      rfl
    rw [if_neg h62, if_neg h62]
    by_cases h63 : q.1 = 63
    · rw [if_pos h63, if_pos h63]
      rfl
    rw [if_neg h63, if_neg h63]
    by_cases h64 : q.1 = 64
    · rw [if_pos h64, if_pos h64]
      rfl
    rw [if_neg h64, if_neg h64]
    by_cases h65 : q.1 = 65
    · rw [if_pos h65, if_pos h65]
      rfl
    rw [if_neg h65, if_neg h65]
    by_cases h66 : q.1 = 66
    · rw [if_pos h66, if_pos h66]
      rfl
    rw [if_neg h66, if_neg h66]
    by_cases h67 : q.1 = 67
    · rw [if_pos h67, if_pos h67]
      rfl
    rw [if_neg h67, if_neg h67]
    by_cases h68 : q.1 = 68
    · rw [if_pos h68, if_pos h68]
      rfl
    rw [if_neg h68, if_neg h68]
    by_cases h69 : q.1 = 69
    · rw [if_pos h69, if_pos h69]
      rfl
    rw [if_neg h69, if_neg h69]
    by_cases h70 : q.1 = 70
    · rw [if_pos h70, if_pos h70]
      rfl
    rw [if_neg h70, if_neg h70]
    by_cases h71 : q.1 = 71
    · rw [if_pos h71, if_pos h71]
      rfl
    rw [if_neg h71, if_neg h71]
    by_cases h72 : q.1 = 72
    · rw [if_pos h72, if_pos h72]
      rfl
    rw [if_neg h72, if_neg h72]
    by_cases h73 : q.1 = 73
    · rw [if_pos h73, if_pos h73]
      rfl
    rw [if_neg h73, if_neg h73]
    by_cases h74 : q.1 = 74
    · rw [if_pos h74, if_pos h74]
      rfl
    rw [if_neg h74, if_neg h74]
def am_run0 : Nat → List (Nat × am_I) → Nat → List Value → List Value → am_S → Option (Option Value × am_S)
  | 0, _, _, _, _, _ => none
  | n + 1, P, i, ls, st, S => match P[i]? with
    | none => none
    | some r => match am_step0 r.2 i ls st S with
      | none => none
      | some (.inl (j, ls', st', S')) => am_run0 n P j ls' st' S'
      | some (.inr (.inl r)) => some r
      | some (.inr (.inr (m, vs, st'))) => if (am_ini (am_G m) vs).length = (am_G m).2.2.1 then match am_run0 n (am_G m).2.2.2.2.1 0 (am_ini (am_G m) vs) [] S with
        | none => none
        | some (v, S') => am_run0 n P (i + 1) ls (v.toList ++ st') S' else none
theorem am_run0_ok {X : am_X} (hX : X 0 = am_X00 0) : ∀ (f : Nat) (P : List (Nat × am_I)) (i : Nat) (ls st : List Value) (S : am_S) (r : Option Value × am_S), am_run0 f P i ls st S = some r → am_run am_G X f P i ls st S = some r := by
  intro f
  induction f with
  | zero => intro P i ls st S r h; simp [am_run0] at h
  | succ f ih =>
    intro P i ls st S r h
    unfold am_run0 at h
    unfold am_run
    split at h
    · cases h
    · rename_i x hx
      rw [hx]
      dsimp only
      split at h
      · cases h
      · rename_i j ls2 st2 S2 hs
        rw [am_step0_ok hX hs]
        exact ih _ _ _ _ _ _ h
      · rename_i r2 hs
        rw [am_step0_ok hX hs]
        exact h
      · rename_i m vs st2 hs
        rw [am_step0_ok hX hs]
        dsimp only
        split at h
        · rename_i hlen
          rw [if_pos hlen]
          split at h
          · cases h
          · rename_i v S2 hc
            rw [ih _ _ _ _ _ _ hc]
            exact ih _ _ _ _ _ _ h
        · cases h
def am_r11 : Option (Option Value × am_S) := am_run0 4000 (am_G 154).2.2.2.2.1 0 (am_ini (am_G 154) [.ref 0]) [] (am_mk am_S0 11 13)
def am_Sa : am_S := (am_r11.getD (none, am_S0)).2
def am_r12 : Option (Option Value × am_S) := am_run0 4000 (am_G 213).2.2.2.2.1 0 (am_ini (am_G 213) [.ref 139]) [] (am_mk am_Sa 12 44)
def am_S1 : am_S := (am_r12.getD (none, am_S0)).2
set_option maxRecDepth 100000 in
theorem am_r11_ok : (match am_r11 with
  | some (none, _) => true
  | _ => false) = true := by decide +kernel
set_option maxRecDepth 100000 in
theorem am_r12_ok : (match am_r12 with
  | some (none, _) => true
  | _ => false) = true := by decide +kernel
set_option maxRecDepth 100000 in
theorem am_Sa_n : am_Sa.1.1 = 139 := by decide +kernel
set_option maxRecDepth 100000 in
theorem am_S1_n : am_S1.1 = (162, 15823) := by decide +kernel
def am_KL : List (Nat × Nat) := [(11, 13), (9, 2), (20, 1600), (8, 11), (20, 10), (24, 10), (20, 9), (20, 9), (20, 9), (20, 9), (20, 9), (20, 9), (20, 9), (20, 9), (20, 9), (20, 9), (7, 9), (23, 10), (20, 80), (2, 7), (20, 9), (20, 48), (20, 48), (20, 48), (20, 48), (2, 7), (20, 9), (20, 48), (20, 48), (20, 48), (20, 48), (2, 7), (20, 9), (20, 48), (20, 48), (20, 48), (20, 48), (2, 7), (20, 9), (20, 48), (20, 48), (20, 48), (20, 48), (2, 7), (20, 9), (20, 48), (20, 48), (20, 48), (20, 48), (2, 7), (20, 9), (20, 48), (20, 48), (20, 48), (20, 48), (2, 7), (20, 9), (20, 48), (20, 48), (20, 48), (20, 48), (2, 7), (20, 9), (20, 48), (20, 48), (20, 48), (20, 48), (2, 7), (20, 9), (20, 48), (20, 48), (20, 48), (20, 48), (2, 7), (20, 9), (20, 48), (20, 48), (20, 48), (20, 48), (5, 4), (20, 100), (21, 48), (21, 48), (3, 6), (20, 100), (20, 100), (21, 48), (20, 4), (20, 3), (1, 10), (20, 10), (20, 10), (20, 10), (20, 10), (20, 10), (20, 4), (10, 12), (2, 7), (20, 9), (20, 48), (20, 48), (20, 48), (20, 48), (20, 5), (20, 10), (22, 48), (0, 8), (24, 20), (20, 173), (20, 173), (20, 173), (20, 173), (20, 173), (20, 173), (20, 173), (20, 173), (20, 173), (20, 173), (20, 173), (20, 173), (20, 173), (20, 173), (20, 173), (20, 173), (20, 173), (20, 173), (20, 173), (20, 173), (6, 8), (20, 16), (20, 16), (21, 48), (20, 4), (4, 3), (20, 72), (20, 9), (20, 6), (20, 6), (20, 6), (12, 44), (20, 10), (20, 10), (20, 60), (20, 80), (20, 60), (20, 1600), (20, 6), (20, 54), (20, 153), (20, 3060), (20, 1920), (20, 45), (20, 45), (20, 45), (20, 45), (20, 10), (20, 14), (20, 5), (20, 16), (20, 16), (20, 48), (20, 72)]
def am_RL : List (List Nat) := [[1, 3, 16, 79, 83, 89, 96, 106, 128, 133, 136, 137, 138], [2, 999], [], [999, 999, 999, 999, 999, 4, 5, 1, 999, 999, 999], [], [6, 7, 8, 9, 10, 11, 12, 13, 14, 15], [], [], [], [], [], [], [], [], [], [], [17, 999, 999, 999, 999, 999, 999, 18, 999], [19, 25, 31, 37, 43, 49, 55, 61, 67, 73], [], [999, 999, 20, 21, 22, 23, 24], [], [], [], [], [], [999, 999, 26, 27, 28, 29, 30], [], [], [], [], [], [999, 999, 32, 33, 34, 35, 36], [], [], [], [], [], [999, 999, 38, 39, 40, 41, 42], [], [], [], [], [], [999, 999, 44, 45, 46, 47, 48], [], [], [], [], [], [999, 999, 50, 51, 52, 53, 54], [], [], [], [], [], [999, 999, 56, 57, 58, 59, 60], [], [], [], [], [], [999, 999, 62, 63, 64, 65, 66], [], [], [], [], [], [999, 999, 68, 69, 70, 71, 72], [], [], [], [], [], [999, 999, 74, 75, 76, 77, 78], [], [], [], [], [], [16, 80, 81, 82], [], [], [], [16, 84, 85, 86, 87, 88], [], [], [], [], [], [16, 83, 90, 91, 92, 93, 94, 95, 999, 999], [], [], [], [], [], [], [16, 83, 89, 97, 103, 999, 999, 999, 999, 999, 104, 105], [999, 999, 98, 99, 100, 101, 102], [], [], [], [], [], [], [], [], [16, 79, 83, 89, 107, 999, 999, 999], [108, 109, 110, 111, 112, 113, 114, 115, 116, 117, 118, 119, 120, 121, 122, 123, 124, 125, 126, 127], [], [], [], [], [], [], [], [], [], [], [], [], [], [], [], [], [], [], [], [], [999, 999, 999, 999, 129, 130, 131, 132], [], [], [], [], [134, 999, 135], [], [], [], [], [], [999, 999, 999, 140, 141, 142, 999, 999, 999, 143, 144, 145, 999, 146, 999, 999, 999, 999, 999, 999, 999, 147, 148, 149, 999, 150, 151, 152, 153, 154, 155, 156, 999, 999, 999, 157, 999, 999, 158, 159, 160, 999, 161, 999], [], [], [], [], [], [], [], [], [], [], [], [], [], [], [], [], [], [], [], [], [], []]
set_option maxRecDepth 100000 in
theorem am_Kb : (List.range 162).all (fun c => decide (am_S1.2.1 c = am_KL.getD c (0, 0))) = true := by decide +kernel
set_option maxRecDepth 100000 in
theorem am_Rb : (List.range 162).all (fun c => (List.range (am_RL.getD c []).length).all (fun k => (am_RL.getD c []).getD k 999 == 999 || decide (am_S1.2.2.2.2 c k = some ((am_RL.getD c []).getD k 999)))) = true := by decide +kernel
