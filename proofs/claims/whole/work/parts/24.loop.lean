/-! THE LAW'S LOOP, out of one theorem an op: class and model answer alike, and go on in step (Rl n I J: they are in step behind n calls) -/
def am_Same (X : am_X) (Rl : Nat → (Nat → Nat → Int32) → (Nat → Nat → Int64) → Prop) (mc mm : Nat) (vs : List Value) : Prop := ∀ (n : Nat) (I : Nat → Nat → Int32) (J : Nat → Nat → Int64), n < 512 → Rl n I J → ∃ (v : Int32) (I1 : Nat → Nat → Int32) (J1 : Nat → Nat → Int64) (I2 : Nat → Nat → Int32) (J2 : Nat → Nat → Int64), am_do X mc (.ref 0 :: vs) (am_sh I J) = some (some (.int v), am_sh I1 J1) ∧ am_do X mm (.ref 139 :: vs) (am_sh I1 J1) = some (some (.int v), am_sh I2 J2) ∧ Rl (n + 1) I2 J2
def am_Ops (X : am_X) (Rl : Nat → (Nat → Nat → Int32) → (Nat → Nat → Int64) → Prop) : Prop :=
  (∀ (a1 a2 a3 a4 a5 : Int32), am_Same X Rl 155 221 [.int a1, .int a2, .int a3, .int a4, .int a5]) ∧
  (∀ (a1 : Int32), am_Same X Rl 156 222 [.int a1]) ∧
  (am_Same X Rl 157 239 []) ∧
  (∀ (a1 : Int32), am_Same X Rl 158 240 [.int a1]) ∧
  (∀ (a1 : Int32), am_Same X Rl 159 263 [.int a1]) ∧
  (∀ (a1 a2 : Int32), am_Same X Rl 160 264 [.int a1, .int a2]) ∧
  (am_Same X Rl 161 265 []) ∧
  (∀ (a1 a2 : Int32), am_Same X Rl 162 266 [.int a1, .int a2]) ∧
  (∀ (a1 a2 a3 : Int32), am_Same X Rl 163 267 [.int a1, .int a2, .int a3]) ∧
  (∀ (a1 a2 a3 : Int32), am_Same X Rl 164 268 [.int a1, .int a2, .int a3]) ∧
  (∀ (a1 a2 a3 : Int32), am_Same X Rl 165 270 [.int a1, .int a2, .int a3]) ∧
  (∀ (a1 a2 : Int32), am_Same X Rl 166 276 [.int a1, .int a2]) ∧
  (∀ (a1 a2 a3 : Int32), am_Same X Rl 167 277 [.int a1, .int a2, .int a3]) ∧
  (∀ (a1 a2 a3 : Int32), am_Same X Rl 168 278 [.int a1, .int a2, .int a3]) ∧
  (∀ (a1 a2 a3 : Int32), am_Same X Rl 169 279 [.int a1, .int a2, .int a3]) ∧
  (∀ (a1 a2 a3 a4 : Int32), am_Same X Rl 170 282 [.int a1, .int a2, .int a3, .int a4]) ∧
  (∀ (a1 a2 a3 a4 : Int32), am_Same X Rl 171 283 [.int a1, .int a2, .int a3, .int a4]) ∧
  (∀ (a1 a2 : Int32), am_Same X Rl 172 285 [.int a1, .int a2]) ∧
  (∀ (a1 a2 a3 a4 : Int32), am_Same X Rl 173 286 [.int a1, .int a2, .int a3, .int a4]) ∧
  (∀ (a1 a2 : Int32), am_Same X Rl 174 288 [.int a1, .int a2]) ∧
  (∀ (a1 : Int32), am_Same X Rl 175 289 [.int a1]) ∧
  (∀ (a1 : Int32), am_Same X Rl 176 291 [.int a1]) ∧
  (∀ (a1 : Int32), am_Same X Rl 177 293 [.int a1]) ∧
  (∀ (a1 a2 a3 a4 : Int32), am_Same X Rl 178 296 [.int a1, .int a2, .int a3, .int a4]) ∧
  (∀ (a1 a2 : Int32), am_Same X Rl 179 297 [.int a1, .int a2]) ∧
  (∀ (a1 a2 : Int32), am_Same X Rl 180 298 [.int a1, .int a2]) ∧
  (∀ (a1 a2 : Int32), am_Same X Rl 181 299 [.int a1, .int a2]) ∧
  (∀ (a1 : Int32), am_Same X Rl 182 301 [.int a1]) ∧
  (∀ (a1 : Int32), am_Same X Rl 183 302 [.int a1]) ∧
  (∀ (a1 a2 : Int32), am_Same X Rl 184 306 [.int a1, .int a2]) ∧
  (∀ (a1 : Int32), am_Same X Rl 185 307 [.int a1]) ∧
  (∀ (a1 : Int32), am_Same X Rl 186 308 [.int a1]) ∧
  (∀ (a1 a2 : Int32), am_Same X Rl 187 310 [.int a1, .int a2]) ∧
  (∀ (a1 a2 : Int32), am_Same X Rl 188 320 [.int a1, .int a2]) ∧
  (∀ (a1 a2 a3 : Int32), am_Same X Rl 189 316 [.int a1, .int a2, .int a3]) ∧
  (∀ (a1 a2 : Int32), am_Same X Rl 190 321 [.int a1, .int a2]) ∧
  (∀ (a1 : Int32), am_Same X Rl 191 322 [.int a1]) ∧
  (∀ (a1 a2 : Int32), am_Same X Rl 192 324 [.int a1, .int a2]) ∧
  (∀ (a1 a2 : Int32), am_Same X Rl 193 325 [.int a1, .int a2]) ∧
  (∀ (a1 : Int32), am_Same X Rl 194 326 [.int a1]) ∧
  (∀ (a1 : Int32), am_Same X Rl 195 329 [.int a1]) ∧
  (∀ (a1 : Int32), am_Same X Rl 196 331 [.int a1]) ∧
  (∀ (a1 a2 a3 : Int32), am_Same X Rl 197 332 [.int a1, .int a2, .int a3]) ∧
  (∀ (a1 a2 : Int32), a2 = 0 ∨ a2 = 1 → am_Same X Rl 198 333 [.int a1, .int a2]) ∧
  (∀ (a1 : Int32), am_Same X Rl 199 334 [.int a1]) ∧
  (∀ (a1 : Int32), am_Same X Rl 200 336 [.int a1]) ∧
  (∀ (a1 : Int32), am_Same X Rl 201 338 [.int a1]) ∧
  (am_Same X Rl 202 339 []) ∧
  (∀ (a1 : Int32), am_Same X Rl 203 340 [.int a1]) ∧
  (am_Same X Rl 204 342 []) ∧
  (∀ (a1 : Int32), am_Same X Rl 205 343 [.int a1]) ∧
  (am_Same X Rl 206 346 []) ∧
  (∀ (a1 : Int32), am_Same X Rl 207 347 [.int a1])
theorem am_cn {x : Int32} {k m : Nat} (hx : x = nI m) (h : m + k < 2 ^ 31) : ¬ ((x + Int32.ofNat k) < 0) ∧ (x + Int32.ofNat k).toNatClampNeg = m + k := by
  subst hx
  have e : nI m + Int32.ofNat k = nI (m + k) := nI_add m k
  rw [e]
  exact ⟨nI_pos h, nI_clamp h⟩
theorem am_six (n : Nat) : nI (6 * n) + 6 = nI (6 * (n + 1)) := by
  have h : nI (6 * n) + nI 6 = nI (6 * n + 6) := nI_add _ _
  have e : (nI 6 : Int32) = 6 := by decide
  rw [e] at h
  rw [h, show 6 * n + 6 = 6 * (n + 1) by omega]
set_option maxHeartbeats 4000000 in
set_option maxRecDepth 100000 in
theorem am_loop {X : am_X} {Rl : Nat → (Nat → Nat → Int32) → (Nat → Nat → Int64) → Prop} (hops : am_Ops X Rl) (hmono : ∀ n I J, Rl n I J → Rl (n + 1) I J) (hL : (X 2).1 ≤ 3072) : ∀ (d n : Nat) (I : Nat → Nat → Int32) (J : Nat → Nat → Int64), 6 * n + d = (X 2).1 → Rl n I J → ∃ I' J', am_ev X amP_362 10 [.retAddr 2, .ref 0, .ref 139, .int (nI (6 * n))] [] (am_sh I J) = some (some (.int 1), am_sh I' J') := by
  intro d
  induction d using Nat.strongRecOn with
  | _ d ih =>
    intro n I J hd hR
    generalize hx1 : nI (6 * n) = x1
    have hL2 : (X 2).1 < 2 ^ 31 := by omega
    have e6 : ∀ k : Nat, k ≤ 5 → ¬ ((X 2).1 < 6 * n + 6) → ¬ ((x1 + Int32.ofNat k) < 0 ∨ (X 2).1 ≤ (x1 + Int32.ofNat k).toNatClampNeg) := by
      intro k hk hlt z
      obtain ⟨q1, q2⟩ := am_cn (k := k) hx1.symm (by omega)
      rcases z with z | z
      · exact q1 z
      · rw [q2] at z
        omega
    have hcond : ((Int32.ofNat (X 2).1 - (6 : Int32)) < x1) ↔ (X 2).1 < 6 * n + 6 := by
      by_cases h6 : (X 2).1 < 6
      · have hn0 : n = 0 := by omega
        subst hn0
        have e0 : x1 = 0 := by rw [← hx1]; exact nI_0
        rw [e0]
        have key : ∀ m : Nat, m < 6 → Int32.ofNat m - (6 : Int32) < 0 := by decide
        exact ⟨fun _ => by omega, fun _ => key _ h6⟩
      · obtain ⟨m, hm⟩ : ∃ m, (X 2).1 = m + 6 := ⟨(X 2).1 - 6, by omega⟩
        have e1 : Int32.ofNat (m + 6) - (6 : Int32) = nI m := by
          have h : nI m + nI 6 = nI (m + 6) := nI_add _ _
          have e : (nI 6 : Int32) = 6 := by decide
          rw [e] at h
          show nI (m + 6) - 6 = nI m
          rw [← h, Int32.add_sub_cancel]
        rw [hm, e1, ← hx1, nI_ltI (by omega) (by omega)]
        omega
    rw [sg_362_10]
    by_cases hlt : (X 2).1 < 6 * n + 6
    · rw [if_pos (hcond.mpr hlt)]
      exact ⟨I, J, rfl⟩
    · rw [if_neg (fun z => hlt (hcond.mp z))]
      have hn5 : n < 512 := by omega
      have g0 : ¬ (x1 < 0 ∨ (X 2).1 ≤ x1.toNatClampNeg) := by
        rw [← hx1, nI_clamp (by omega)]
        intro z
        rcases z with z | z
        · exact nI_pos (by omega) z
        · omega
      have g1 : ¬ ((x1 + (1 : Int32)) < 0 ∨ (X 2).1 ≤ (x1 + (1 : Int32)).toNatClampNeg) := e6 1 (by omega) hlt
      have g2 : ¬ ((x1 + (2 : Int32)) < 0 ∨ (X 2).1 ≤ (x1 + (2 : Int32)).toNatClampNeg) := e6 2 (by omega) hlt
      have g3 : ¬ ((x1 + (3 : Int32)) < 0 ∨ (X 2).1 ≤ (x1 + (3 : Int32)).toNatClampNeg) := e6 3 (by omega) hlt
      have g4 : ¬ ((x1 + (4 : Int32)) < 0 ∨ (X 2).1 ≤ (x1 + (4 : Int32)).toNatClampNeg) := e6 4 (by omega) hlt
      have g5 : ¬ ((x1 + (5 : Int32)) < 0 ∨ (X 2).1 ≤ (x1 + (5 : Int32)).toNatClampNeg) := e6 5 (by omega) hlt
      have h16 : x1 + (6 : Int32) = nI (6 * (n + 1)) := by rw [← hx1]; exact am_six n
      rw [if_neg g0]
      by_cases s0 : (((X 2).2 x1.toNatClampNeg) &&& (63 : Int32)) = (0 : Int32)
      · rw [if_pos s0, if_neg g1, if_neg g2, if_neg g3, if_neg g4, if_neg g5]
        obtain ⟨v, I1, J1, I2, J2, h1, h2, h3⟩ := (hops.1) _ _ _ _ _ n I J hn5 hR
        obtain ⟨I', J', hfin⟩ := ih (d - 6) (by omega) (n + 1) I2 J2 (by omega) h3
        refine ⟨I', J', ?_⟩
        rw [h1]
        show am_ev X amP_362 49 [.retAddr 2, .ref 0, .ref 139, .int x1] [.int v] (am_sh I1 J1) = _
        rw [sg_362_49, if_neg g1, if_neg g2, if_neg g3, if_neg g4, if_neg g5, h2]
        show am_ev X amP_362 76 [.retAddr 2, .ref 0, .ref 139, .int x1] [.int v, .int v] (am_sh I2 J2) = _
        rw [sg_362_76, if_pos rfl, h16]
        exact hfin
      rw [if_neg s0]
      by_cases s1 : (((X 2).2 x1.toNatClampNeg) &&& (63 : Int32)) = (1 : Int32)
      · rw [if_pos s1, if_neg g1]
        obtain ⟨v, I1, J1, I2, J2, h1, h2, h3⟩ := (hops.2.1) _ n I J hn5 hR
        obtain ⟨I', J', hfin⟩ := ih (d - 6) (by omega) (n + 1) I2 J2 (by omega) h3
        refine ⟨I', J', ?_⟩
        rw [h1]
        show am_ev X amP_362 86 [.retAddr 2, .ref 0, .ref 139, .int x1] [.int v] (am_sh I1 J1) = _
        rw [sg_362_86, if_neg g1, h2]
        show am_ev X amP_362 93 [.retAddr 2, .ref 0, .ref 139, .int x1] [.int v, .int v] (am_sh I2 J2) = _
        rw [sg_362_93, if_pos rfl, h16]
        exact hfin
      rw [if_neg s1]
      by_cases s2 : (((X 2).2 x1.toNatClampNeg) &&& (63 : Int32)) = (2 : Int32)
      · rw [if_pos s2]
        obtain ⟨v, I1, J1, I2, J2, h1, h2, h3⟩ := (hops.2.2.1) n I J hn5 hR
        obtain ⟨I', J', hfin⟩ := ih (d - 6) (by omega) (n + 1) I2 J2 (by omega) h3
        refine ⟨I', J', ?_⟩
        rw [h1]
        show am_ev X amP_362 98 [.retAddr 2, .ref 0, .ref 139, .int x1] [.int v] (am_sh I1 J1) = _
        rw [sg_362_98, h2]
        show am_ev X amP_362 100 [.retAddr 2, .ref 0, .ref 139, .int x1] [.int v, .int v] (am_sh I2 J2) = _
        rw [sg_362_100, if_pos rfl, h16]
        exact hfin
      rw [if_neg s2]
      by_cases s3 : (((X 2).2 x1.toNatClampNeg) &&& (63 : Int32)) = (3 : Int32)
      · rw [if_pos s3, if_neg g1]
        obtain ⟨v, I1, J1, I2, J2, h1, h2, h3⟩ := (hops.2.2.2.1) _ n I J hn5 hR
        obtain ⟨I', J', hfin⟩ := ih (d - 6) (by omega) (n + 1) I2 J2 (by omega) h3
        refine ⟨I', J', ?_⟩
        rw [h1]
        show am_ev X amP_362 110 [.retAddr 2, .ref 0, .ref 139, .int x1] [.int v] (am_sh I1 J1) = _
        rw [sg_362_110, if_neg g1, h2]
        show am_ev X amP_362 117 [.retAddr 2, .ref 0, .ref 139, .int x1] [.int v, .int v] (am_sh I2 J2) = _
        rw [sg_362_117, if_pos rfl, h16]
        exact hfin
      rw [if_neg s3]
      by_cases s4 : (((X 2).2 x1.toNatClampNeg) &&& (63 : Int32)) = (4 : Int32)
      · rw [if_pos s4, if_neg g1]
        obtain ⟨v, I1, J1, I2, J2, h1, h2, h3⟩ := (hops.2.2.2.2.1) _ n I J hn5 hR
        obtain ⟨I', J', hfin⟩ := ih (d - 6) (by omega) (n + 1) I2 J2 (by omega) h3
        refine ⟨I', J', ?_⟩
        rw [h1]
        show am_ev X amP_362 127 [.retAddr 2, .ref 0, .ref 139, .int x1] [.int v] (am_sh I1 J1) = _
        rw [sg_362_127, if_neg g1, h2]
        show am_ev X amP_362 134 [.retAddr 2, .ref 0, .ref 139, .int x1] [.int v, .int v] (am_sh I2 J2) = _
        rw [sg_362_134, if_pos rfl, h16]
        exact hfin
      rw [if_neg s4]
      by_cases s5 : (((X 2).2 x1.toNatClampNeg) &&& (63 : Int32)) = (5 : Int32)
      · rw [if_pos s5, if_neg g1, if_neg g2]
        obtain ⟨v, I1, J1, I2, J2, h1, h2, h3⟩ := (hops.2.2.2.2.2.1) _ _ n I J hn5 hR
        obtain ⟨I', J', hfin⟩ := ih (d - 6) (by omega) (n + 1) I2 J2 (by omega) h3
        refine ⟨I', J', ?_⟩
        rw [h1]
        show am_ev X amP_362 149 [.retAddr 2, .ref 0, .ref 139, .int x1] [.int v] (am_sh I1 J1) = _
        rw [sg_362_149, if_neg g1, if_neg g2, h2]
        show am_ev X amP_362 161 [.retAddr 2, .ref 0, .ref 139, .int x1] [.int v, .int v] (am_sh I2 J2) = _
        rw [sg_362_161, if_pos rfl, h16]
        exact hfin
      rw [if_neg s5]
      by_cases s6 : (((X 2).2 x1.toNatClampNeg) &&& (63 : Int32)) = (6 : Int32)
      · rw [if_pos s6]
        obtain ⟨v, I1, J1, I2, J2, h1, h2, h3⟩ := (hops.2.2.2.2.2.2.1) n I J hn5 hR
        obtain ⟨I', J', hfin⟩ := ih (d - 6) (by omega) (n + 1) I2 J2 (by omega) h3
        refine ⟨I', J', ?_⟩
        rw [h1]
        show am_ev X amP_362 166 [.retAddr 2, .ref 0, .ref 139, .int x1] [.int v] (am_sh I1 J1) = _
        rw [sg_362_166, h2]
        show am_ev X amP_362 168 [.retAddr 2, .ref 0, .ref 139, .int x1] [.int v, .int v] (am_sh I2 J2) = _
        rw [sg_362_168, if_pos rfl, h16]
        exact hfin
      rw [if_neg s6]
      by_cases s7 : (((X 2).2 x1.toNatClampNeg) &&& (63 : Int32)) = (7 : Int32)
      · rw [if_pos s7, if_neg g1, if_neg g2]
        obtain ⟨v, I1, J1, I2, J2, h1, h2, h3⟩ := (hops.2.2.2.2.2.2.2.1) _ _ n I J hn5 hR
        obtain ⟨I', J', hfin⟩ := ih (d - 6) (by omega) (n + 1) I2 J2 (by omega) h3
        refine ⟨I', J', ?_⟩
        rw [h1]
        show am_ev X amP_362 183 [.retAddr 2, .ref 0, .ref 139, .int x1] [.int v] (am_sh I1 J1) = _
        rw [sg_362_183, if_neg g1, if_neg g2, h2]
        show am_ev X amP_362 195 [.retAddr 2, .ref 0, .ref 139, .int x1] [.int v, .int v] (am_sh I2 J2) = _
        rw [sg_362_195, if_pos rfl, h16]
        exact hfin
      rw [if_neg s7]
      by_cases s8 : (((X 2).2 x1.toNatClampNeg) &&& (63 : Int32)) = (8 : Int32)
      · rw [if_pos s8, if_neg g1, if_neg g2, if_neg g3]
        obtain ⟨v, I1, J1, I2, J2, h1, h2, h3⟩ := (hops.2.2.2.2.2.2.2.2.1) _ _ _ n I J hn5 hR
        obtain ⟨I', J', hfin⟩ := ih (d - 6) (by omega) (n + 1) I2 J2 (by omega) h3
        refine ⟨I', J', ?_⟩
        rw [h1]
        show am_ev X amP_362 215 [.retAddr 2, .ref 0, .ref 139, .int x1] [.int v] (am_sh I1 J1) = _
        rw [sg_362_215, if_neg g1, if_neg g2, if_neg g3, h2]
        show am_ev X amP_362 232 [.retAddr 2, .ref 0, .ref 139, .int x1] [.int v, .int v] (am_sh I2 J2) = _
        rw [sg_362_232, if_pos rfl, h16]
        exact hfin
      rw [if_neg s8]
      by_cases s9 : (((X 2).2 x1.toNatClampNeg) &&& (63 : Int32)) = (9 : Int32)
      · rw [if_pos s9, if_neg g1, if_neg g2, if_neg g3]
        obtain ⟨v, I1, J1, I2, J2, h1, h2, h3⟩ := (hops.2.2.2.2.2.2.2.2.2.1) _ _ _ n I J hn5 hR
        obtain ⟨I', J', hfin⟩ := ih (d - 6) (by omega) (n + 1) I2 J2 (by omega) h3
        refine ⟨I', J', ?_⟩
        rw [h1]
        show am_ev X amP_362 252 [.retAddr 2, .ref 0, .ref 139, .int x1] [.int v] (am_sh I1 J1) = _
        rw [sg_362_252, if_neg g1, if_neg g2, if_neg g3, h2]
        show am_ev X amP_362 269 [.retAddr 2, .ref 0, .ref 139, .int x1] [.int v, .int v] (am_sh I2 J2) = _
        rw [sg_362_269, if_pos rfl, h16]
        exact hfin
      rw [if_neg s9]
      by_cases s10 : (((X 2).2 x1.toNatClampNeg) &&& (63 : Int32)) = (10 : Int32)
      · rw [if_pos s10, if_neg g1, if_neg g2, if_neg g3]
        obtain ⟨v, I1, J1, I2, J2, h1, h2, h3⟩ := (hops.2.2.2.2.2.2.2.2.2.2.1) _ _ _ n I J hn5 hR
        obtain ⟨I', J', hfin⟩ := ih (d - 6) (by omega) (n + 1) I2 J2 (by omega) h3
        refine ⟨I', J', ?_⟩
        rw [h1]
        show am_ev X amP_362 289 [.retAddr 2, .ref 0, .ref 139, .int x1] [.int v] (am_sh I1 J1) = _
        rw [sg_362_289, if_neg g1, if_neg g2, if_neg g3, h2]
        show am_ev X amP_362 306 [.retAddr 2, .ref 0, .ref 139, .int x1] [.int v, .int v] (am_sh I2 J2) = _
        rw [sg_362_306, if_pos rfl, h16]
        exact hfin
      rw [if_neg s10]
      by_cases s11 : (((X 2).2 x1.toNatClampNeg) &&& (63 : Int32)) = (11 : Int32)
      · rw [if_pos s11, if_neg g1, if_neg g2]
        obtain ⟨v, I1, J1, I2, J2, h1, h2, h3⟩ := (hops.2.2.2.2.2.2.2.2.2.2.2.1) _ _ n I J hn5 hR
        obtain ⟨I', J', hfin⟩ := ih (d - 6) (by omega) (n + 1) I2 J2 (by omega) h3
        refine ⟨I', J', ?_⟩
        rw [h1]
        show am_ev X amP_362 321 [.retAddr 2, .ref 0, .ref 139, .int x1] [.int v] (am_sh I1 J1) = _
        rw [sg_362_321, if_neg g1, if_neg g2, h2]
        show am_ev X amP_362 333 [.retAddr 2, .ref 0, .ref 139, .int x1] [.int v, .int v] (am_sh I2 J2) = _
        rw [sg_362_333, if_pos rfl, h16]
        exact hfin
      rw [if_neg s11]
      by_cases s12 : (((X 2).2 x1.toNatClampNeg) &&& (63 : Int32)) = (12 : Int32)
      · rw [if_pos s12, if_neg g1, if_neg g2, if_neg g3]
        obtain ⟨v, I1, J1, I2, J2, h1, h2, h3⟩ := (hops.2.2.2.2.2.2.2.2.2.2.2.2.1) _ _ _ n I J hn5 hR
        obtain ⟨I', J', hfin⟩ := ih (d - 6) (by omega) (n + 1) I2 J2 (by omega) h3
        refine ⟨I', J', ?_⟩
        rw [h1]
        show am_ev X amP_362 353 [.retAddr 2, .ref 0, .ref 139, .int x1] [.int v] (am_sh I1 J1) = _
        rw [sg_362_353, if_neg g1, if_neg g2, if_neg g3, h2]
        show am_ev X amP_362 370 [.retAddr 2, .ref 0, .ref 139, .int x1] [.int v, .int v] (am_sh I2 J2) = _
        rw [sg_362_370, if_pos rfl, h16]
        exact hfin
      rw [if_neg s12]
      by_cases s13 : (((X 2).2 x1.toNatClampNeg) &&& (63 : Int32)) = (13 : Int32)
      · rw [if_pos s13, if_neg g1, if_neg g2, if_neg g3]
        obtain ⟨v, I1, J1, I2, J2, h1, h2, h3⟩ := (hops.2.2.2.2.2.2.2.2.2.2.2.2.2.1) _ _ _ n I J hn5 hR
        obtain ⟨I', J', hfin⟩ := ih (d - 6) (by omega) (n + 1) I2 J2 (by omega) h3
        refine ⟨I', J', ?_⟩
        rw [h1]
        show am_ev X amP_362 390 [.retAddr 2, .ref 0, .ref 139, .int x1] [.int v] (am_sh I1 J1) = _
        rw [sg_362_390, if_neg g1, if_neg g2, if_neg g3, h2]
        show am_ev X amP_362 407 [.retAddr 2, .ref 0, .ref 139, .int x1] [.int v, .int v] (am_sh I2 J2) = _
        rw [sg_362_407, if_pos rfl, h16]
        exact hfin
      rw [if_neg s13]
      by_cases s14 : (((X 2).2 x1.toNatClampNeg) &&& (63 : Int32)) = (14 : Int32)
      · rw [if_pos s14, if_neg g1, if_neg g2, if_neg g3]
        obtain ⟨v, I1, J1, I2, J2, h1, h2, h3⟩ := (hops.2.2.2.2.2.2.2.2.2.2.2.2.2.2.1) _ _ _ n I J hn5 hR
        obtain ⟨I', J', hfin⟩ := ih (d - 6) (by omega) (n + 1) I2 J2 (by omega) h3
        refine ⟨I', J', ?_⟩
        rw [h1]
        show am_ev X amP_362 427 [.retAddr 2, .ref 0, .ref 139, .int x1] [.int v] (am_sh I1 J1) = _
        rw [sg_362_427, if_neg g1, if_neg g2, if_neg g3, h2]
        show am_ev X amP_362 444 [.retAddr 2, .ref 0, .ref 139, .int x1] [.int v, .int v] (am_sh I2 J2) = _
        rw [sg_362_444, if_pos rfl, h16]
        exact hfin
      rw [if_neg s14]
      by_cases s15 : (((X 2).2 x1.toNatClampNeg) &&& (63 : Int32)) = (15 : Int32)
      · rw [if_pos s15, if_neg g1, if_neg g2, if_neg g3, if_neg g4]
        obtain ⟨v, I1, J1, I2, J2, h1, h2, h3⟩ := (hops.2.2.2.2.2.2.2.2.2.2.2.2.2.2.2.1) _ _ _ _ n I J hn5 hR
        obtain ⟨I', J', hfin⟩ := ih (d - 6) (by omega) (n + 1) I2 J2 (by omega) h3
        refine ⟨I', J', ?_⟩
        rw [h1]
        show am_ev X amP_362 469 [.retAddr 2, .ref 0, .ref 139, .int x1] [.int v] (am_sh I1 J1) = _
        rw [sg_362_469, if_neg g1, if_neg g2, if_neg g3, if_neg g4, h2]
        show am_ev X amP_362 491 [.retAddr 2, .ref 0, .ref 139, .int x1] [.int v, .int v] (am_sh I2 J2) = _
        rw [sg_362_491, if_pos rfl, h16]
        exact hfin
      rw [if_neg s15]
      by_cases s16 : (((X 2).2 x1.toNatClampNeg) &&& (63 : Int32)) = (16 : Int32)
      · rw [if_pos s16, if_neg g1, if_neg g2, if_neg g3, if_neg g4]
        obtain ⟨v, I1, J1, I2, J2, h1, h2, h3⟩ := (hops.2.2.2.2.2.2.2.2.2.2.2.2.2.2.2.2.1) _ _ _ _ n I J hn5 hR
        obtain ⟨I', J', hfin⟩ := ih (d - 6) (by omega) (n + 1) I2 J2 (by omega) h3
        refine ⟨I', J', ?_⟩
        rw [h1]
        show am_ev X amP_362 516 [.retAddr 2, .ref 0, .ref 139, .int x1] [.int v] (am_sh I1 J1) = _
        rw [sg_362_516, if_neg g1, if_neg g2, if_neg g3, if_neg g4, h2]
        show am_ev X amP_362 538 [.retAddr 2, .ref 0, .ref 139, .int x1] [.int v, .int v] (am_sh I2 J2) = _
        rw [sg_362_538, if_pos rfl, h16]
        exact hfin
      rw [if_neg s16]
      by_cases s17 : (((X 2).2 x1.toNatClampNeg) &&& (63 : Int32)) = (17 : Int32)
      · rw [if_pos s17, if_neg g1, if_neg g2]
        obtain ⟨v, I1, J1, I2, J2, h1, h2, h3⟩ := (hops.2.2.2.2.2.2.2.2.2.2.2.2.2.2.2.2.2.1) _ _ n I J hn5 hR
        obtain ⟨I', J', hfin⟩ := ih (d - 6) (by omega) (n + 1) I2 J2 (by omega) h3
        refine ⟨I', J', ?_⟩
        rw [h1]
        show am_ev X amP_362 553 [.retAddr 2, .ref 0, .ref 139, .int x1] [.int v] (am_sh I1 J1) = _
        rw [sg_362_553, if_neg g1, if_neg g2, h2]
        show am_ev X amP_362 565 [.retAddr 2, .ref 0, .ref 139, .int x1] [.int v, .int v] (am_sh I2 J2) = _
        rw [sg_362_565, if_pos rfl, h16]
        exact hfin
      rw [if_neg s17]
      by_cases s18 : (((X 2).2 x1.toNatClampNeg) &&& (63 : Int32)) = (18 : Int32)
      · rw [if_pos s18, if_neg g1, if_neg g2, if_neg g3, if_neg g4]
        obtain ⟨v, I1, J1, I2, J2, h1, h2, h3⟩ := (hops.2.2.2.2.2.2.2.2.2.2.2.2.2.2.2.2.2.2.1) _ _ _ _ n I J hn5 hR
        obtain ⟨I', J', hfin⟩ := ih (d - 6) (by omega) (n + 1) I2 J2 (by omega) h3
        refine ⟨I', J', ?_⟩
        rw [h1]
        show am_ev X amP_362 590 [.retAddr 2, .ref 0, .ref 139, .int x1] [.int v] (am_sh I1 J1) = _
        rw [sg_362_590, if_neg g1, if_neg g2, if_neg g3, if_neg g4, h2]
        show am_ev X amP_362 612 [.retAddr 2, .ref 0, .ref 139, .int x1] [.int v, .int v] (am_sh I2 J2) = _
        rw [sg_362_612, if_pos rfl, h16]
        exact hfin
      rw [if_neg s18]
      by_cases s19 : (((X 2).2 x1.toNatClampNeg) &&& (63 : Int32)) = (19 : Int32)
      · rw [if_pos s19, if_neg g1, if_neg g2]
        obtain ⟨v, I1, J1, I2, J2, h1, h2, h3⟩ := (hops.2.2.2.2.2.2.2.2.2.2.2.2.2.2.2.2.2.2.2.1) _ _ n I J hn5 hR
        obtain ⟨I', J', hfin⟩ := ih (d - 6) (by omega) (n + 1) I2 J2 (by omega) h3
        refine ⟨I', J', ?_⟩
        rw [h1]
        show am_ev X amP_362 627 [.retAddr 2, .ref 0, .ref 139, .int x1] [.int v] (am_sh I1 J1) = _
        rw [sg_362_627, if_neg g1, if_neg g2, h2]
        show am_ev X amP_362 639 [.retAddr 2, .ref 0, .ref 139, .int x1] [.int v, .int v] (am_sh I2 J2) = _
        rw [sg_362_639, if_pos rfl, h16]
        exact hfin
      rw [if_neg s19]
      by_cases s20 : (((X 2).2 x1.toNatClampNeg) &&& (63 : Int32)) = (20 : Int32)
      · rw [if_pos s20, if_neg g1]
        obtain ⟨v, I1, J1, I2, J2, h1, h2, h3⟩ := (hops.2.2.2.2.2.2.2.2.2.2.2.2.2.2.2.2.2.2.2.2.1) _ n I J hn5 hR
        obtain ⟨I', J', hfin⟩ := ih (d - 6) (by omega) (n + 1) I2 J2 (by omega) h3
        refine ⟨I', J', ?_⟩
        rw [h1]
        show am_ev X amP_362 649 [.retAddr 2, .ref 0, .ref 139, .int x1] [.int v] (am_sh I1 J1) = _
        rw [sg_362_649, if_neg g1, h2]
        show am_ev X amP_362 656 [.retAddr 2, .ref 0, .ref 139, .int x1] [.int v, .int v] (am_sh I2 J2) = _
        rw [sg_362_656, if_pos rfl, h16]
        exact hfin
      rw [if_neg s20]
      by_cases s21 : (((X 2).2 x1.toNatClampNeg) &&& (63 : Int32)) = (21 : Int32)
      · rw [if_pos s21, if_neg g1]
        obtain ⟨v, I1, J1, I2, J2, h1, h2, h3⟩ := (hops.2.2.2.2.2.2.2.2.2.2.2.2.2.2.2.2.2.2.2.2.2.1) _ n I J hn5 hR
        obtain ⟨I', J', hfin⟩ := ih (d - 6) (by omega) (n + 1) I2 J2 (by omega) h3
        refine ⟨I', J', ?_⟩
        rw [h1]
        show am_ev X amP_362 666 [.retAddr 2, .ref 0, .ref 139, .int x1] [.int v] (am_sh I1 J1) = _
        rw [sg_362_666, if_neg g1, h2]
        show am_ev X amP_362 673 [.retAddr 2, .ref 0, .ref 139, .int x1] [.int v, .int v] (am_sh I2 J2) = _
        rw [sg_362_673, if_pos rfl, h16]
        exact hfin
      rw [if_neg s21]
      by_cases s22 : (((X 2).2 x1.toNatClampNeg) &&& (63 : Int32)) = (22 : Int32)
      · rw [if_pos s22, if_neg g1]
        obtain ⟨v, I1, J1, I2, J2, h1, h2, h3⟩ := (hops.2.2.2.2.2.2.2.2.2.2.2.2.2.2.2.2.2.2.2.2.2.2.1) _ n I J hn5 hR
        obtain ⟨I', J', hfin⟩ := ih (d - 6) (by omega) (n + 1) I2 J2 (by omega) h3
        refine ⟨I', J', ?_⟩
        rw [h1]
        show am_ev X amP_362 683 [.retAddr 2, .ref 0, .ref 139, .int x1] [.int v] (am_sh I1 J1) = _
        rw [sg_362_683, if_neg g1, h2]
        show am_ev X amP_362 690 [.retAddr 2, .ref 0, .ref 139, .int x1] [.int v, .int v] (am_sh I2 J2) = _
        rw [sg_362_690, if_pos rfl, h16]
        exact hfin
      rw [if_neg s22]
      by_cases s23 : (((X 2).2 x1.toNatClampNeg) &&& (63 : Int32)) = (23 : Int32)
      · rw [if_pos s23, if_neg g1, if_neg g2, if_neg g3, if_neg g4]
        obtain ⟨v, I1, J1, I2, J2, h1, h2, h3⟩ := (hops.2.2.2.2.2.2.2.2.2.2.2.2.2.2.2.2.2.2.2.2.2.2.2.1) _ _ _ _ n I J hn5 hR
        obtain ⟨I', J', hfin⟩ := ih (d - 6) (by omega) (n + 1) I2 J2 (by omega) h3
        refine ⟨I', J', ?_⟩
        rw [h1]
        show am_ev X amP_362 715 [.retAddr 2, .ref 0, .ref 139, .int x1] [.int v] (am_sh I1 J1) = _
        rw [sg_362_715, if_neg g1, if_neg g2, if_neg g3, if_neg g4, h2]
        show am_ev X amP_362 737 [.retAddr 2, .ref 0, .ref 139, .int x1] [.int v, .int v] (am_sh I2 J2) = _
        rw [sg_362_737, if_pos rfl, h16]
        exact hfin
      rw [if_neg s23]
      by_cases s24 : (((X 2).2 x1.toNatClampNeg) &&& (63 : Int32)) = (24 : Int32)
      · rw [if_pos s24, if_neg g1, if_neg g2]
        obtain ⟨v, I1, J1, I2, J2, h1, h2, h3⟩ := (hops.2.2.2.2.2.2.2.2.2.2.2.2.2.2.2.2.2.2.2.2.2.2.2.2.1) _ _ n I J hn5 hR
        obtain ⟨I', J', hfin⟩ := ih (d - 6) (by omega) (n + 1) I2 J2 (by omega) h3
        refine ⟨I', J', ?_⟩
        rw [h1]
        show am_ev X amP_362 752 [.retAddr 2, .ref 0, .ref 139, .int x1] [.int v] (am_sh I1 J1) = _
        rw [sg_362_752, if_neg g1, if_neg g2, h2]
        show am_ev X amP_362 764 [.retAddr 2, .ref 0, .ref 139, .int x1] [.int v, .int v] (am_sh I2 J2) = _
        rw [sg_362_764, if_pos rfl, h16]
        exact hfin
      rw [if_neg s24]
      by_cases s25 : (((X 2).2 x1.toNatClampNeg) &&& (63 : Int32)) = (25 : Int32)
      · rw [if_pos s25, if_neg g1, if_neg g2]
        obtain ⟨v, I1, J1, I2, J2, h1, h2, h3⟩ := (hops.2.2.2.2.2.2.2.2.2.2.2.2.2.2.2.2.2.2.2.2.2.2.2.2.2.1) _ _ n I J hn5 hR
        obtain ⟨I', J', hfin⟩ := ih (d - 6) (by omega) (n + 1) I2 J2 (by omega) h3
        refine ⟨I', J', ?_⟩
        rw [h1]
        show am_ev X amP_362 779 [.retAddr 2, .ref 0, .ref 139, .int x1] [.int v] (am_sh I1 J1) = _
        rw [sg_362_779, if_neg g1, if_neg g2, h2]
        show am_ev X amP_362 791 [.retAddr 2, .ref 0, .ref 139, .int x1] [.int v, .int v] (am_sh I2 J2) = _
        rw [sg_362_791, if_pos rfl, h16]
        exact hfin
      rw [if_neg s25]
      by_cases s26 : (((X 2).2 x1.toNatClampNeg) &&& (63 : Int32)) = (26 : Int32)
      · rw [if_pos s26, if_neg g1, if_neg g2]
        obtain ⟨v, I1, J1, I2, J2, h1, h2, h3⟩ := (hops.2.2.2.2.2.2.2.2.2.2.2.2.2.2.2.2.2.2.2.2.2.2.2.2.2.2.1) _ _ n I J hn5 hR
        obtain ⟨I', J', hfin⟩ := ih (d - 6) (by omega) (n + 1) I2 J2 (by omega) h3
        refine ⟨I', J', ?_⟩
        rw [h1]
        show am_ev X amP_362 806 [.retAddr 2, .ref 0, .ref 139, .int x1] [.int v] (am_sh I1 J1) = _
        rw [sg_362_806, if_neg g1, if_neg g2, h2]
        show am_ev X amP_362 818 [.retAddr 2, .ref 0, .ref 139, .int x1] [.int v, .int v] (am_sh I2 J2) = _
        rw [sg_362_818, if_pos rfl, h16]
        exact hfin
      rw [if_neg s26]
      by_cases s27 : (((X 2).2 x1.toNatClampNeg) &&& (63 : Int32)) = (27 : Int32)
      · rw [if_pos s27, if_neg g1]
        obtain ⟨v, I1, J1, I2, J2, h1, h2, h3⟩ := (hops.2.2.2.2.2.2.2.2.2.2.2.2.2.2.2.2.2.2.2.2.2.2.2.2.2.2.2.1) _ n I J hn5 hR
        obtain ⟨I', J', hfin⟩ := ih (d - 6) (by omega) (n + 1) I2 J2 (by omega) h3
        refine ⟨I', J', ?_⟩
        rw [h1]
        show am_ev X amP_362 828 [.retAddr 2, .ref 0, .ref 139, .int x1] [.int v] (am_sh I1 J1) = _
        rw [sg_362_828, if_neg g1, h2]
        show am_ev X amP_362 835 [.retAddr 2, .ref 0, .ref 139, .int x1] [.int v, .int v] (am_sh I2 J2) = _
        rw [sg_362_835, if_pos rfl, h16]
        exact hfin
      rw [if_neg s27]
      by_cases s28 : (((X 2).2 x1.toNatClampNeg) &&& (63 : Int32)) = (28 : Int32)
      · rw [if_pos s28, if_neg g1]
        obtain ⟨v, I1, J1, I2, J2, h1, h2, h3⟩ := (hops.2.2.2.2.2.2.2.2.2.2.2.2.2.2.2.2.2.2.2.2.2.2.2.2.2.2.2.2.1) _ n I J hn5 hR
        obtain ⟨I', J', hfin⟩ := ih (d - 6) (by omega) (n + 1) I2 J2 (by omega) h3
        refine ⟨I', J', ?_⟩
        rw [h1]
        show am_ev X amP_362 845 [.retAddr 2, .ref 0, .ref 139, .int x1] [.int v] (am_sh I1 J1) = _
        rw [sg_362_845, if_neg g1, h2]
        show am_ev X amP_362 852 [.retAddr 2, .ref 0, .ref 139, .int x1] [.int v, .int v] (am_sh I2 J2) = _
        rw [sg_362_852, if_pos rfl, h16]
        exact hfin
      rw [if_neg s28]
      by_cases s29 : (((X 2).2 x1.toNatClampNeg) &&& (63 : Int32)) = (29 : Int32)
      · rw [if_pos s29, if_neg g1, if_neg g2]
        obtain ⟨v, I1, J1, I2, J2, h1, h2, h3⟩ := (hops.2.2.2.2.2.2.2.2.2.2.2.2.2.2.2.2.2.2.2.2.2.2.2.2.2.2.2.2.2.1) _ _ n I J hn5 hR
        obtain ⟨I', J', hfin⟩ := ih (d - 6) (by omega) (n + 1) I2 J2 (by omega) h3
        refine ⟨I', J', ?_⟩
        rw [h1]
        show am_ev X amP_362 867 [.retAddr 2, .ref 0, .ref 139, .int x1] [.int v] (am_sh I1 J1) = _
        rw [sg_362_867, if_neg g1, if_neg g2, h2]
        show am_ev X amP_362 879 [.retAddr 2, .ref 0, .ref 139, .int x1] [.int v, .int v] (am_sh I2 J2) = _
        rw [sg_362_879, if_pos rfl, h16]
        exact hfin
      rw [if_neg s29]
      by_cases s30 : (((X 2).2 x1.toNatClampNeg) &&& (63 : Int32)) = (30 : Int32)
      · rw [if_pos s30, if_neg g1]
        obtain ⟨v, I1, J1, I2, J2, h1, h2, h3⟩ := (hops.2.2.2.2.2.2.2.2.2.2.2.2.2.2.2.2.2.2.2.2.2.2.2.2.2.2.2.2.2.2.1) _ n I J hn5 hR
        obtain ⟨I', J', hfin⟩ := ih (d - 6) (by omega) (n + 1) I2 J2 (by omega) h3
        refine ⟨I', J', ?_⟩
        rw [h1]
        show am_ev X amP_362 889 [.retAddr 2, .ref 0, .ref 139, .int x1] [.int v] (am_sh I1 J1) = _
        rw [sg_362_889, if_neg g1, h2]
        show am_ev X amP_362 896 [.retAddr 2, .ref 0, .ref 139, .int x1] [.int v, .int v] (am_sh I2 J2) = _
        rw [sg_362_896, if_pos rfl, h16]
        exact hfin
      rw [if_neg s30]
      by_cases s31 : (((X 2).2 x1.toNatClampNeg) &&& (63 : Int32)) = (31 : Int32)
      · rw [if_pos s31, if_neg g1]
        obtain ⟨v, I1, J1, I2, J2, h1, h2, h3⟩ := (hops.2.2.2.2.2.2.2.2.2.2.2.2.2.2.2.2.2.2.2.2.2.2.2.2.2.2.2.2.2.2.2.1) _ n I J hn5 hR
        obtain ⟨I', J', hfin⟩ := ih (d - 6) (by omega) (n + 1) I2 J2 (by omega) h3
        refine ⟨I', J', ?_⟩
        rw [h1]
        show am_ev X amP_362 906 [.retAddr 2, .ref 0, .ref 139, .int x1] [.int v] (am_sh I1 J1) = _
        rw [sg_362_906, if_neg g1, h2]
        show am_ev X amP_362 913 [.retAddr 2, .ref 0, .ref 139, .int x1] [.int v, .int v] (am_sh I2 J2) = _
        rw [sg_362_913, if_pos rfl, h16]
        exact hfin
      rw [if_neg s31]
      by_cases s32 : (((X 2).2 x1.toNatClampNeg) &&& (63 : Int32)) = (32 : Int32)
      · rw [if_pos s32, if_neg g1, if_neg g2]
        obtain ⟨v, I1, J1, I2, J2, h1, h2, h3⟩ := (hops.2.2.2.2.2.2.2.2.2.2.2.2.2.2.2.2.2.2.2.2.2.2.2.2.2.2.2.2.2.2.2.2.1) _ _ n I J hn5 hR
        obtain ⟨I', J', hfin⟩ := ih (d - 6) (by omega) (n + 1) I2 J2 (by omega) h3
        refine ⟨I', J', ?_⟩
        rw [h1]
        show am_ev X amP_362 928 [.retAddr 2, .ref 0, .ref 139, .int x1] [.int v] (am_sh I1 J1) = _
        rw [sg_362_928, if_neg g1, if_neg g2, h2]
        show am_ev X amP_362 940 [.retAddr 2, .ref 0, .ref 139, .int x1] [.int v, .int v] (am_sh I2 J2) = _
        rw [sg_362_940, if_pos rfl, h16]
        exact hfin
      rw [if_neg s32]
      by_cases s33 : (((X 2).2 x1.toNatClampNeg) &&& (63 : Int32)) = (33 : Int32)
      · rw [if_pos s33, if_neg g1, if_neg g2]
        obtain ⟨v, I1, J1, I2, J2, h1, h2, h3⟩ := (hops.2.2.2.2.2.2.2.2.2.2.2.2.2.2.2.2.2.2.2.2.2.2.2.2.2.2.2.2.2.2.2.2.2.1) _ _ n I J hn5 hR
        obtain ⟨I', J', hfin⟩ := ih (d - 6) (by omega) (n + 1) I2 J2 (by omega) h3
        refine ⟨I', J', ?_⟩
        rw [h1]
        show am_ev X amP_362 955 [.retAddr 2, .ref 0, .ref 139, .int x1] [.int v] (am_sh I1 J1) = _
        rw [sg_362_955, if_neg g1, if_neg g2, h2]
        show am_ev X amP_362 967 [.retAddr 2, .ref 0, .ref 139, .int x1] [.int v, .int v] (am_sh I2 J2) = _
        rw [sg_362_967, if_pos rfl, h16]
        exact hfin
      rw [if_neg s33]
      by_cases s34 : (((X 2).2 x1.toNatClampNeg) &&& (63 : Int32)) = (34 : Int32)
      · rw [if_pos s34, if_neg g1, if_neg g2, if_neg g3]
        obtain ⟨v, I1, J1, I2, J2, h1, h2, h3⟩ := (hops.2.2.2.2.2.2.2.2.2.2.2.2.2.2.2.2.2.2.2.2.2.2.2.2.2.2.2.2.2.2.2.2.2.2.1) _ _ _ n I J hn5 hR
        obtain ⟨I', J', hfin⟩ := ih (d - 6) (by omega) (n + 1) I2 J2 (by omega) h3
        refine ⟨I', J', ?_⟩
        rw [h1]
        show am_ev X amP_362 987 [.retAddr 2, .ref 0, .ref 139, .int x1] [.int v] (am_sh I1 J1) = _
        rw [sg_362_987, if_neg g1, if_neg g2, if_neg g3, h2]
        show am_ev X amP_362 1004 [.retAddr 2, .ref 0, .ref 139, .int x1] [.int v, .int v] (am_sh I2 J2) = _
        rw [sg_362_1004, if_pos rfl, h16]
        exact hfin
      rw [if_neg s34]
      by_cases s35 : (((X 2).2 x1.toNatClampNeg) &&& (63 : Int32)) = (35 : Int32)
      · rw [if_pos s35, if_neg g1, if_neg g2]
        obtain ⟨v, I1, J1, I2, J2, h1, h2, h3⟩ := (hops.2.2.2.2.2.2.2.2.2.2.2.2.2.2.2.2.2.2.2.2.2.2.2.2.2.2.2.2.2.2.2.2.2.2.2.1) _ _ n I J hn5 hR
        obtain ⟨I', J', hfin⟩ := ih (d - 6) (by omega) (n + 1) I2 J2 (by omega) h3
        refine ⟨I', J', ?_⟩
        rw [h1]
        show am_ev X amP_362 1019 [.retAddr 2, .ref 0, .ref 139, .int x1] [.int v] (am_sh I1 J1) = _
        rw [sg_362_1019, if_neg g1, if_neg g2, h2]
        show am_ev X amP_362 1031 [.retAddr 2, .ref 0, .ref 139, .int x1] [.int v, .int v] (am_sh I2 J2) = _
        rw [sg_362_1031, if_pos rfl, h16]
        exact hfin
      rw [if_neg s35]
      by_cases s36 : (((X 2).2 x1.toNatClampNeg) &&& (63 : Int32)) = (36 : Int32)
      · rw [if_pos s36, if_neg g1]
        obtain ⟨v, I1, J1, I2, J2, h1, h2, h3⟩ := (hops.2.2.2.2.2.2.2.2.2.2.2.2.2.2.2.2.2.2.2.2.2.2.2.2.2.2.2.2.2.2.2.2.2.2.2.2.1) _ n I J hn5 hR
        obtain ⟨I', J', hfin⟩ := ih (d - 6) (by omega) (n + 1) I2 J2 (by omega) h3
        refine ⟨I', J', ?_⟩
        rw [h1]
        show am_ev X amP_362 1041 [.retAddr 2, .ref 0, .ref 139, .int x1] [.int v] (am_sh I1 J1) = _
        rw [sg_362_1041, if_neg g1, h2]
        show am_ev X amP_362 1048 [.retAddr 2, .ref 0, .ref 139, .int x1] [.int v, .int v] (am_sh I2 J2) = _
        rw [sg_362_1048, if_pos rfl, h16]
        exact hfin
      rw [if_neg s36]
      by_cases s37 : (((X 2).2 x1.toNatClampNeg) &&& (63 : Int32)) = (37 : Int32)
      · rw [if_pos s37, if_neg g1, if_neg g2]
        obtain ⟨v, I1, J1, I2, J2, h1, h2, h3⟩ := (hops.2.2.2.2.2.2.2.2.2.2.2.2.2.2.2.2.2.2.2.2.2.2.2.2.2.2.2.2.2.2.2.2.2.2.2.2.2.1) _ _ n I J hn5 hR
        obtain ⟨I', J', hfin⟩ := ih (d - 6) (by omega) (n + 1) I2 J2 (by omega) h3
        refine ⟨I', J', ?_⟩
        rw [h1]
        show am_ev X amP_362 1063 [.retAddr 2, .ref 0, .ref 139, .int x1] [.int v] (am_sh I1 J1) = _
        rw [sg_362_1063, if_neg g1, if_neg g2, h2]
        show am_ev X amP_362 1075 [.retAddr 2, .ref 0, .ref 139, .int x1] [.int v, .int v] (am_sh I2 J2) = _
        rw [sg_362_1075, if_pos rfl, h16]
        exact hfin
      rw [if_neg s37]
      by_cases s38 : (((X 2).2 x1.toNatClampNeg) &&& (63 : Int32)) = (38 : Int32)
      · rw [if_pos s38, if_neg g1, if_neg g2]
        obtain ⟨v, I1, J1, I2, J2, h1, h2, h3⟩ := (hops.2.2.2.2.2.2.2.2.2.2.2.2.2.2.2.2.2.2.2.2.2.2.2.2.2.2.2.2.2.2.2.2.2.2.2.2.2.2.1) _ _ n I J hn5 hR
        obtain ⟨I', J', hfin⟩ := ih (d - 6) (by omega) (n + 1) I2 J2 (by omega) h3
        refine ⟨I', J', ?_⟩
        rw [h1]
        show am_ev X amP_362 1090 [.retAddr 2, .ref 0, .ref 139, .int x1] [.int v] (am_sh I1 J1) = _
        rw [sg_362_1090, if_neg g1, if_neg g2, h2]
        show am_ev X amP_362 1102 [.retAddr 2, .ref 0, .ref 139, .int x1] [.int v, .int v] (am_sh I2 J2) = _
        rw [sg_362_1102, if_pos rfl, h16]
        exact hfin
      rw [if_neg s38]
      by_cases s39 : (((X 2).2 x1.toNatClampNeg) &&& (63 : Int32)) = (39 : Int32)
      · rw [if_pos s39, if_neg g1]
        obtain ⟨v, I1, J1, I2, J2, h1, h2, h3⟩ := (hops.2.2.2.2.2.2.2.2.2.2.2.2.2.2.2.2.2.2.2.2.2.2.2.2.2.2.2.2.2.2.2.2.2.2.2.2.2.2.2.1) _ n I J hn5 hR
        obtain ⟨I', J', hfin⟩ := ih (d - 6) (by omega) (n + 1) I2 J2 (by omega) h3
        refine ⟨I', J', ?_⟩
        rw [h1]
        show am_ev X amP_362 1112 [.retAddr 2, .ref 0, .ref 139, .int x1] [.int v] (am_sh I1 J1) = _
        rw [sg_362_1112, if_neg g1, h2]
        show am_ev X amP_362 1119 [.retAddr 2, .ref 0, .ref 139, .int x1] [.int v, .int v] (am_sh I2 J2) = _
        rw [sg_362_1119, if_pos rfl, h16]
        exact hfin
      rw [if_neg s39]
      by_cases s40 : (((X 2).2 x1.toNatClampNeg) &&& (63 : Int32)) = (40 : Int32)
      · rw [if_pos s40, if_neg g1]
        obtain ⟨v, I1, J1, I2, J2, h1, h2, h3⟩ := (hops.2.2.2.2.2.2.2.2.2.2.2.2.2.2.2.2.2.2.2.2.2.2.2.2.2.2.2.2.2.2.2.2.2.2.2.2.2.2.2.2.1) _ n I J hn5 hR
        obtain ⟨I', J', hfin⟩ := ih (d - 6) (by omega) (n + 1) I2 J2 (by omega) h3
        refine ⟨I', J', ?_⟩
        rw [h1]
        show am_ev X amP_362 1129 [.retAddr 2, .ref 0, .ref 139, .int x1] [.int v] (am_sh I1 J1) = _
        rw [sg_362_1129, if_neg g1, h2]
        show am_ev X amP_362 1136 [.retAddr 2, .ref 0, .ref 139, .int x1] [.int v, .int v] (am_sh I2 J2) = _
        rw [sg_362_1136, if_pos rfl, h16]
        exact hfin
      rw [if_neg s40]
      by_cases s41 : (((X 2).2 x1.toNatClampNeg) &&& (63 : Int32)) = (41 : Int32)
      · rw [if_pos s41, if_neg g1]
        obtain ⟨v, I1, J1, I2, J2, h1, h2, h3⟩ := (hops.2.2.2.2.2.2.2.2.2.2.2.2.2.2.2.2.2.2.2.2.2.2.2.2.2.2.2.2.2.2.2.2.2.2.2.2.2.2.2.2.2.1) _ n I J hn5 hR
        obtain ⟨I', J', hfin⟩ := ih (d - 6) (by omega) (n + 1) I2 J2 (by omega) h3
        refine ⟨I', J', ?_⟩
        rw [h1]
        show am_ev X amP_362 1146 [.retAddr 2, .ref 0, .ref 139, .int x1] [.int v] (am_sh I1 J1) = _
        rw [sg_362_1146, if_neg g1, h2]
        show am_ev X amP_362 1153 [.retAddr 2, .ref 0, .ref 139, .int x1] [.int v, .int v] (am_sh I2 J2) = _
        rw [sg_362_1153, if_pos rfl, h16]
        exact hfin
      rw [if_neg s41]
      by_cases s42 : (((X 2).2 x1.toNatClampNeg) &&& (63 : Int32)) = (42 : Int32)
      · rw [if_pos s42, if_neg g1, if_neg g2, if_neg g3]
        obtain ⟨v, I1, J1, I2, J2, h1, h2, h3⟩ := (hops.2.2.2.2.2.2.2.2.2.2.2.2.2.2.2.2.2.2.2.2.2.2.2.2.2.2.2.2.2.2.2.2.2.2.2.2.2.2.2.2.2.2.1) _ _ _ n I J hn5 hR
        obtain ⟨I', J', hfin⟩ := ih (d - 6) (by omega) (n + 1) I2 J2 (by omega) h3
        refine ⟨I', J', ?_⟩
        rw [h1]
        show am_ev X amP_362 1173 [.retAddr 2, .ref 0, .ref 139, .int x1] [.int v] (am_sh I1 J1) = _
        rw [sg_362_1173, if_neg g1, if_neg g2, if_neg g3, h2]
        show am_ev X amP_362 1190 [.retAddr 2, .ref 0, .ref 139, .int x1] [.int v, .int v] (am_sh I2 J2) = _
        rw [sg_362_1190, if_pos rfl, h16]
        exact hfin
      rw [if_neg s42]
      by_cases s43 : (((X 2).2 x1.toNatClampNeg) &&& (63 : Int32)) = (43 : Int32)
      · rw [if_pos s43, if_neg g1, if_neg g2]
        by_cases hz : ((X 2).2 (x1 + (2 : Int32)).toNatClampNeg) = 0
        · obtain ⟨v, I1, J1, I2, J2, h1, h2, h3⟩ := (hops.2.2.2.2.2.2.2.2.2.2.2.2.2.2.2.2.2.2.2.2.2.2.2.2.2.2.2.2.2.2.2.2.2.2.2.2.2.2.2.2.2.2.2.1) _ 0 (by decide) n I J hn5 hR
          obtain ⟨I', J', hfin⟩ := ih (d - 6) (by omega) (n + 1) I2 J2 (by omega) h3
          refine ⟨I', J', ?_⟩
          rw [if_pos hz, h1]
          show am_ev X amP_362 1209 [.retAddr 2, .ref 0, .ref 139, .int x1] [.int v] (am_sh I1 J1) = _
          rw [sg_362_1209, if_neg g1, if_neg g2, if_pos hz, h2]
          show am_ev X amP_362 1225 [.retAddr 2, .ref 0, .ref 139, .int x1] [.int v, .int v] (am_sh I2 J2) = _
          rw [sg_362_1225, if_pos rfl, h16]
          exact hfin
        · obtain ⟨v, I1, J1, I2, J2, h1, h2, h3⟩ := (hops.2.2.2.2.2.2.2.2.2.2.2.2.2.2.2.2.2.2.2.2.2.2.2.2.2.2.2.2.2.2.2.2.2.2.2.2.2.2.2.2.2.2.2.1) _ 1 (by decide) n I J hn5 hR
          obtain ⟨I', J', hfin⟩ := ih (d - 6) (by omega) (n + 1) I2 J2 (by omega) h3
          refine ⟨I', J', ?_⟩
          rw [if_neg hz, h1]
          show am_ev X amP_362 1209 [.retAddr 2, .ref 0, .ref 139, .int x1] [.int v] (am_sh I1 J1) = _
          rw [sg_362_1209, if_neg g1, if_neg g2, if_neg hz, h2]
          show am_ev X amP_362 1225 [.retAddr 2, .ref 0, .ref 139, .int x1] [.int v, .int v] (am_sh I2 J2) = _
          rw [sg_362_1225, if_pos rfl, h16]
          exact hfin
      rw [if_neg s43]
      by_cases s44 : (((X 2).2 x1.toNatClampNeg) &&& (63 : Int32)) = (44 : Int32)
      · rw [if_pos s44, if_neg g1]
        obtain ⟨v, I1, J1, I2, J2, h1, h2, h3⟩ := (hops.2.2.2.2.2.2.2.2.2.2.2.2.2.2.2.2.2.2.2.2.2.2.2.2.2.2.2.2.2.2.2.2.2.2.2.2.2.2.2.2.2.2.2.2.1) _ n I J hn5 hR
        obtain ⟨I', J', hfin⟩ := ih (d - 6) (by omega) (n + 1) I2 J2 (by omega) h3
        refine ⟨I', J', ?_⟩
        rw [h1]
        show am_ev X amP_362 1235 [.retAddr 2, .ref 0, .ref 139, .int x1] [.int v] (am_sh I1 J1) = _
        rw [sg_362_1235, if_neg g1, h2]
        show am_ev X amP_362 1242 [.retAddr 2, .ref 0, .ref 139, .int x1] [.int v, .int v] (am_sh I2 J2) = _
        rw [sg_362_1242, if_pos rfl, h16]
        exact hfin
      rw [if_neg s44]
      by_cases s45 : (((X 2).2 x1.toNatClampNeg) &&& (63 : Int32)) = (45 : Int32)
      · rw [if_pos s45, if_neg g1]
        obtain ⟨v, I1, J1, I2, J2, h1, h2, h3⟩ := (hops.2.2.2.2.2.2.2.2.2.2.2.2.2.2.2.2.2.2.2.2.2.2.2.2.2.2.2.2.2.2.2.2.2.2.2.2.2.2.2.2.2.2.2.2.2.1) _ n I J hn5 hR
        obtain ⟨I', J', hfin⟩ := ih (d - 6) (by omega) (n + 1) I2 J2 (by omega) h3
        refine ⟨I', J', ?_⟩
        rw [h1]
        show am_ev X amP_362 1252 [.retAddr 2, .ref 0, .ref 139, .int x1] [.int v] (am_sh I1 J1) = _
        rw [sg_362_1252, if_neg g1, h2]
        show am_ev X amP_362 1259 [.retAddr 2, .ref 0, .ref 139, .int x1] [.int v, .int v] (am_sh I2 J2) = _
        rw [sg_362_1259, if_pos rfl, h16]
        exact hfin
      rw [if_neg s45]
      by_cases s46 : (((X 2).2 x1.toNatClampNeg) &&& (63 : Int32)) = (46 : Int32)
      · rw [if_pos s46, if_neg g1]
        obtain ⟨v, I1, J1, I2, J2, h1, h2, h3⟩ := (hops.2.2.2.2.2.2.2.2.2.2.2.2.2.2.2.2.2.2.2.2.2.2.2.2.2.2.2.2.2.2.2.2.2.2.2.2.2.2.2.2.2.2.2.2.2.2.1) _ n I J hn5 hR
        obtain ⟨I', J', hfin⟩ := ih (d - 6) (by omega) (n + 1) I2 J2 (by omega) h3
        refine ⟨I', J', ?_⟩
        rw [h1]
        show am_ev X amP_362 1269 [.retAddr 2, .ref 0, .ref 139, .int x1] [.int v] (am_sh I1 J1) = _
        rw [sg_362_1269, if_neg g1, h2]
        show am_ev X amP_362 1276 [.retAddr 2, .ref 0, .ref 139, .int x1] [.int v, .int v] (am_sh I2 J2) = _
        rw [sg_362_1276, if_pos rfl, h16]
        exact hfin
      rw [if_neg s46]
      by_cases s47 : (((X 2).2 x1.toNatClampNeg) &&& (63 : Int32)) = (47 : Int32)
      · rw [if_pos s47]
        obtain ⟨v, I1, J1, I2, J2, h1, h2, h3⟩ := (hops.2.2.2.2.2.2.2.2.2.2.2.2.2.2.2.2.2.2.2.2.2.2.2.2.2.2.2.2.2.2.2.2.2.2.2.2.2.2.2.2.2.2.2.2.2.2.2.1) n I J hn5 hR
        obtain ⟨I', J', hfin⟩ := ih (d - 6) (by omega) (n + 1) I2 J2 (by omega) h3
        refine ⟨I', J', ?_⟩
        rw [h1]
        show am_ev X amP_362 1281 [.retAddr 2, .ref 0, .ref 139, .int x1] [.int v] (am_sh I1 J1) = _
        rw [sg_362_1281, h2]
        show am_ev X amP_362 1283 [.retAddr 2, .ref 0, .ref 139, .int x1] [.int v, .int v] (am_sh I2 J2) = _
        rw [sg_362_1283, if_pos rfl, h16]
        exact hfin
      rw [if_neg s47]
      by_cases s48 : (((X 2).2 x1.toNatClampNeg) &&& (63 : Int32)) = (48 : Int32)
      · rw [if_pos s48, if_neg g1]
        obtain ⟨v, I1, J1, I2, J2, h1, h2, h3⟩ := (hops.2.2.2.2.2.2.2.2.2.2.2.2.2.2.2.2.2.2.2.2.2.2.2.2.2.2.2.2.2.2.2.2.2.2.2.2.2.2.2.2.2.2.2.2.2.2.2.2.1) _ n I J hn5 hR
        obtain ⟨I', J', hfin⟩ := ih (d - 6) (by omega) (n + 1) I2 J2 (by omega) h3
        refine ⟨I', J', ?_⟩
        rw [h1]
        show am_ev X amP_362 1293 [.retAddr 2, .ref 0, .ref 139, .int x1] [.int v] (am_sh I1 J1) = _
        rw [sg_362_1293, if_neg g1, h2]
        show am_ev X amP_362 1300 [.retAddr 2, .ref 0, .ref 139, .int x1] [.int v, .int v] (am_sh I2 J2) = _
        rw [sg_362_1300, if_pos rfl, h16]
        exact hfin
      rw [if_neg s48]
      by_cases s49 : (((X 2).2 x1.toNatClampNeg) &&& (63 : Int32)) = (49 : Int32)
      · rw [if_pos s49]
        obtain ⟨v, I1, J1, I2, J2, h1, h2, h3⟩ := (hops.2.2.2.2.2.2.2.2.2.2.2.2.2.2.2.2.2.2.2.2.2.2.2.2.2.2.2.2.2.2.2.2.2.2.2.2.2.2.2.2.2.2.2.2.2.2.2.2.2.1) n I J hn5 hR
        obtain ⟨I', J', hfin⟩ := ih (d - 6) (by omega) (n + 1) I2 J2 (by omega) h3
        refine ⟨I', J', ?_⟩
        rw [h1]
        show am_ev X amP_362 1305 [.retAddr 2, .ref 0, .ref 139, .int x1] [.int v] (am_sh I1 J1) = _
        rw [sg_362_1305, h2]
        show am_ev X amP_362 1307 [.retAddr 2, .ref 0, .ref 139, .int x1] [.int v, .int v] (am_sh I2 J2) = _
        rw [sg_362_1307, if_pos rfl, h16]
        exact hfin
      rw [if_neg s49]
      by_cases s50 : (((X 2).2 x1.toNatClampNeg) &&& (63 : Int32)) = (50 : Int32)
      · rw [if_pos s50, if_neg g1]
        obtain ⟨v, I1, J1, I2, J2, h1, h2, h3⟩ := (hops.2.2.2.2.2.2.2.2.2.2.2.2.2.2.2.2.2.2.2.2.2.2.2.2.2.2.2.2.2.2.2.2.2.2.2.2.2.2.2.2.2.2.2.2.2.2.2.2.2.2.1) _ n I J hn5 hR
        obtain ⟨I', J', hfin⟩ := ih (d - 6) (by omega) (n + 1) I2 J2 (by omega) h3
        refine ⟨I', J', ?_⟩
        rw [h1]
        show am_ev X amP_362 1317 [.retAddr 2, .ref 0, .ref 139, .int x1] [.int v] (am_sh I1 J1) = _
        rw [sg_362_1317, if_neg g1, h2]
        show am_ev X amP_362 1324 [.retAddr 2, .ref 0, .ref 139, .int x1] [.int v, .int v] (am_sh I2 J2) = _
        rw [sg_362_1324, if_pos rfl, h16]
        exact hfin
      rw [if_neg s50]
      by_cases s51 : (((X 2).2 x1.toNatClampNeg) &&& (63 : Int32)) = (51 : Int32)
      · rw [if_pos s51]
        obtain ⟨v, I1, J1, I2, J2, h1, h2, h3⟩ := (hops.2.2.2.2.2.2.2.2.2.2.2.2.2.2.2.2.2.2.2.2.2.2.2.2.2.2.2.2.2.2.2.2.2.2.2.2.2.2.2.2.2.2.2.2.2.2.2.2.2.2.2.1) n I J hn5 hR
        obtain ⟨I', J', hfin⟩ := ih (d - 6) (by omega) (n + 1) I2 J2 (by omega) h3
        refine ⟨I', J', ?_⟩
        rw [h1]
        show am_ev X amP_362 1329 [.retAddr 2, .ref 0, .ref 139, .int x1] [.int v] (am_sh I1 J1) = _
        rw [sg_362_1329, h2]
        show am_ev X amP_362 1331 [.retAddr 2, .ref 0, .ref 139, .int x1] [.int v, .int v] (am_sh I2 J2) = _
        rw [sg_362_1331, if_pos rfl, h16]
        exact hfin
      rw [if_neg s51]
      by_cases s52 : (((X 2).2 x1.toNatClampNeg) &&& (63 : Int32)) = (52 : Int32)
      · rw [if_pos s52, if_neg g1]
        obtain ⟨v, I1, J1, I2, J2, h1, h2, h3⟩ := (hops.2.2.2.2.2.2.2.2.2.2.2.2.2.2.2.2.2.2.2.2.2.2.2.2.2.2.2.2.2.2.2.2.2.2.2.2.2.2.2.2.2.2.2.2.2.2.2.2.2.2.2.2) _ n I J hn5 hR
        obtain ⟨I', J', hfin⟩ := ih (d - 6) (by omega) (n + 1) I2 J2 (by omega) h3
        refine ⟨I', J', ?_⟩
        rw [h1]
        show am_ev X amP_362 1341 [.retAddr 2, .ref 0, .ref 139, .int x1] [.int v] (am_sh I1 J1) = _
        rw [sg_362_1341, if_neg g1, h2]
        show am_ev X amP_362 1348 [.retAddr 2, .ref 0, .ref 139, .int x1] [.int v, .int v] (am_sh I2 J2) = _
        rw [sg_362_1348, if_pos rfl, h16]
        exact hfin
      rw [if_neg s52]
      obtain ⟨I', J', hfin⟩ := ih (d - 6) (by omega) (n + 1) I J (by omega) (hmono n I J hR)
      refine ⟨I', J', ?_⟩
      rw [h16]
      exact hfin
