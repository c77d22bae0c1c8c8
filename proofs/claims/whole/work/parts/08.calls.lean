/-! CALLS, AND THE WHOLE RUN -/
theorem am_O.warm {b0 : Nat} {sv : Nat → Option Nat} {X : am_X} {s U : State} {H : Heap} (hW : s.WarmedH U.vm) (h : am_O b0 sv X s H) : am_O b0 sv X U H := by
  obtain ⟨⟨oa, h1, h2, h3⟩, h4, h5, ⟨ka, kv, h6, h7, h8, h9, h10, h11, h12⟩, ⟨sa, h13, h14⟩, h15, h16, h17⟩ := h
  have hA := hW.alike
  refine ⟨⟨oa, h1, h2.moved hA, h3.moved hA⟩, h4.moved hA, h5.moved hA, ⟨ka, kv, h6, h7, h8.warm hW, h9.moved hA, h10.moved hA, h11.moved hA, h12.moved hA⟩, ⟨sa, h13, h14.moved hA⟩, fun q hq => va_Nw.warmM hW (h15 q hq), h16.moved hA, ?_⟩
  have e : (Cond.arrayOver (.array .int)).before #[] (s.setVm U.vm) = true := by
    rw [Cond.arrayOver_setVmC hA]
    exact h17
  exact e
theorem am_O.same {b0 : Nat} {sv : Nat → Option Nat} {X : am_X} {u U : State} {H : Heap} (hv : U.vm = u.vm) (h : am_O b0 sv X u H) : am_O b0 sv X U H := by
  obtain ⟨⟨oa, h1, h2, h3⟩, h4, h5, ⟨ka, kv, h6, h7, h8, h9, h10, h11, h12⟩, ⟨sa, h13, h14⟩, h15, h16, h17⟩ := h
  have hA : u.vm.Alike U.vm := by rw [hv]; exact Vm.Alike.refl _
  refine ⟨⟨oa, h1, h2.moved hA, h3.moved hA⟩, h4.moved hA, h5.moved hA, ⟨ka, kv, h6, h7, h8.same hv, h9.moved hA, h10.moved hA, h11.moved hA, h12.moved hA⟩, ⟨sa, h13, h14.moved hA⟩, fun q hq => va_tabs rfl hv.symm (h15 q hq), h16.moved hA, ?_⟩
  have e : (Cond.arrayOver (.array .int)).before #[] (u.setVm U.vm) = true := by
    rw [Cond.arrayOver_setVmC hA]
    exact h17
  exact e
theorem am_O.kept {b0 : Nat} {sv : Nat → Option Nat} {X : am_X} {s : State} {H H1 : Heap} (hq : ∀ q : Nat, q < H.size → ¬ am_A b0 q → H1[q]? = H[q]?) (h : am_O b0 sv X s H) : am_O b0 sv X s H1 := by
  obtain ⟨⟨oa, h1, h2, h3⟩, h4, h5, ⟨ka, kv, h6, h7, h8, h9, h10, h11, h12⟩, ⟨sa, h13, h14⟩, h15, h16, h17⟩ := h
  exact ⟨⟨oa, h1, h2.kept hq, h3.kept hq⟩, h4.kept hq, h5.kept hq, ⟨ka, kv, h6, h7, h8, h9.kept hq, h10.kept hq, h11.kept hq, h12.kept hq⟩, ⟨sa, h13, h14.kept hq⟩, h15, h16, h17⟩
def am_rm (g : am_M) (S S' : am_S) : Room := { frames := g.2.2.2.2.2.1, cells := S'.1.1 - S.1.1, slots := S'.1.2 - S.1.2, locals := g.2.2.2.2.2.2.1 }
def am_Pc (X : am_X) (D : va_G) (cid : Nat → ClassId) (b0 : Nat) (sv : Nat → Option Nat) (vs : List Value) (S : am_S) : Array Value → State → Prop := va_Pc (vs.map (am_v b0 sv)) (fun U => U.heap.size = b0 + S.1.1 ∧ va_P D vwCl (am_ws b0 cid S) U.heap ∧ va_K D vwCl (am_tys cid) U ∧ am_O b0 sv X U U.heap)
def am_Qc (D : va_G) (cid : Nat → ClassId) (b0 : Nat) (sv : Nat → Option Nat) (v : Option Value) (S' : am_S) : Array Value → State → Outcome → State → Prop := fun _ st oc t => oc = .returned (v.map (am_v b0 sv)) ∧ va_P D vwCl (am_ws b0 cid S') t.heap ∧ va_F (am_A b0) st t
def am_wm (g : am_M) : List Cond := .code g.1 g.2.1 g.2.2.1 g.2.2.2.1 :: am_w
theorem am_blind {X : am_X} {D : va_G} {cid : Nat → ClassId} {b0 : Nat} {sv : Nat → Option Nat} {vs : List Value} {S : am_S} : FrameBlind (am_Pc X D cid b0 sv vs S) := by
  intro a U g mk h
  obtain ⟨h1, h2, h3, h4, h5⟩ := h
  exact ⟨h1, h2, h3, va_K.moved (u := U) (U := U.calling g mk a) (Vm.Alike.refl U.vm) h4, am_O.same (u := U) (U := U.calling g mk a) rfl h5⟩
def am_ok (G : Nat → am_M) (g : am_M) : Prop := (∀ (i pc : Nat) (q : am_I), g.2.2.2.2.1[i]? = some (pc, q) → am_ck G g.2.2.2.2.2.2.2.2.2.1 g.1.name g.2.1 g.2.2.2.1 g.2.2.2.2.2.1 g.2.2.2.2.2.2.1 g.2.2.2.2.1 i pc q = true) ∧ ∀ (pc : Nat) (q : am_I), g.2.2.2.2.1[0]? = some (pc, q) → pc = 0 ∧ am_gm g = true
theorem am_args {b0 : Nat} {sv : Nat → Option Nat} : ∀ (vs : List Value) (k i : Nat) (v : Value), (vs.flatMap (fun v => if v.category = 2 then [v, Value.null] else [v]))[i]? = some v → v ≠ .null → (k + i, am_v b0 sv v) ∈ lv_args k (vs.map (am_v b0 sv))
  | [], k, i, v, h, _ => by simp at h
  | w :: vs, k, i, v, h, hv => by
    rw [List.flatMap_cons] at h
    by_cases hc : w.category = 2
    · rw [if_pos hc] at h
      show (k + i, am_v b0 sv v) ∈ (k, am_v b0 sv w) :: lv_args (if (am_v b0 sv w).category = 2 then k + 2 else k + 1) (vs.map (am_v b0 sv))
      rw [am_v_cat, if_pos hc]
      match i, h with
      | 0, h =>
        cases h
        exact List.mem_cons_self
      | 1, h =>
        cases h
        exact absurd rfl hv
      | i + 2, h =>
        have h2 := am_args (b0 := b0) (sv := sv) vs (k + 2) i v (by simpa using h) hv
        rw [show k + (i + 2) = k + 2 + i by omega]
        exact List.mem_cons_of_mem _ h2
    · rw [if_neg hc] at h
      show (k + i, am_v b0 sv v) ∈ (k, am_v b0 sv w) :: lv_args (if (am_v b0 sv w).category = 2 then k + 2 else k + 1) (vs.map (am_v b0 sv))
      rw [am_v_cat, if_neg hc]
      match i, h with
      | 0, h =>
        cases h
        exact List.mem_cons_self
      | i + 1, h =>
        have h2 := am_args (b0 := b0) (sv := sv) vs (k + 1) i v (by simpa using h) hv
        rw [show k + (i + 1) = k + 1 + i by omega]
        exact List.mem_cons_of_mem _ h2
theorem am_slen {b0 : Nat} {sv : Nat → Option Nat} : ∀ (vs : List Value), (lg_sl (vs.map (am_v b0 sv))).length = (vs.flatMap (fun v => if v.category = 2 then [v, Value.null] else [v])).length
  | [] => rfl
  | w :: vs => by
    have ih := am_slen (b0 := b0) (sv := sv) vs
    unfold lg_sl at ih ⊢
    rw [List.map_cons, List.flatMap_cons, List.flatMap_cons, List.length_append, List.length_append, ih, am_v_cat]
    by_cases hc : w.category = 2
    · rw [if_pos hc, if_pos hc]
      rfl
    · rw [if_neg hc, if_neg hc]
      rfl
theorem am_split {st : List Value} {b : Nat} {w : Value} (hb : 0 < b) (hl : b ≤ st.length) (h : st[b - 1]? = some w) : ∃ as : List Value, (st.take b).reverse = w :: as ∧ as.length = b - 1 ∧ st = as.reverse ++ w :: st.drop b := by
  obtain ⟨k, rfl⟩ : ∃ k, b = k + 1 := ⟨b - 1, by omega⟩
  rw [Nat.add_sub_cancel] at h
  have ht : st.take (k + 1) = st.take k ++ [w] := by
    rw [List.take_add_one, h]
    rfl
  refine ⟨(st.take k).reverse, by rw [ht]; simp, by simp; omega, ?_⟩
  rw [List.reverse_reverse]
  calc st = st.take (k + 1) ++ st.drop (k + 1) := (List.take_append_drop _ _).symm
    _ = _ := by rw [ht]; simp
section AMV
variable {G : Nat → am_M} {X : am_X} {p : Program} {l : Launch} {e : Env} {R : Room} {s : State} {mid : MethodId} {args : Array Value} {below : List Frame} {meth : Method} {c : Code} {Q : State → Prop} {D : va_G} {cid : Nat → ClassId} {b0 n0 t0 : Nat} {sv : Nat → Option Nat} {on : Nat} {own mn : String} {cc : ByteArray} {rt : Option FieldType} {fr lo nL : Nat} {P : List (Nat × am_I)} {i j pc : Nat} {q : am_I} {ls st ls' st' : List Value} {S S' : am_S}
theorem am_back {H : Heap} {locs : List Loc} {real : Array Slot} {st0 : List Value} {v : Option Value} {a : Array Value} {q' : am_I} (hr : va_Run p l e R s mid args below meth c H locs (S.1.1 - n0) (S.1.2 - t0) (S'.1.1 - S.1.1) (S'.1.2 - S.1.2) (F0 mid pc real st0) (st'.map (am_v b0 sv)) (am_Qc D cid b0 sv v S' a) (am_A b0)) (hS : va_S (am_A b0) s.heap H locs) (hm : S.1.1 ≤ S'.1.1 ∧ S.1.2 ≤ S'.1.2) (hn : n0 ≤ S.1.1) (ht : t0 ≤ S.1.2) (hq' : P[i + 1]? = some (pc + 3, q')) (hL : am_L b0 sv real nL ls)
    (kk : am_At p l e R s mid args below meth c Q D cid b0 n0 t0 sv nL P (i + 1) ls (v.toList ++ st') S') : W p l e R s mid args below meth c H locs (S.1.1 - n0) (S.1.2 - t0) Q (F0 mid pc real st0) := by
  intro T hT Xs
  obtain ⟨v', st1, t, T', L, h0, X', hLL, e1, e2, ⟨hv, hP1, hF⟩, st2⟩ := hr T hT Xs
  have hv2 : v' = v.map (am_v b0 sv) := by
    cases hv
    rfl
  subst hv2
  obtain ⟨hz, hk⟩ := hF
  rw [h0] at hz hk
  have hS1 : va_S (am_A b0) s.heap T'.heap (locs ++ L) := ⟨Nat.le_trans hS.1 (by rw [e1]; exact hz), fun x h1 h2 => by rw [e1, hk x (Nat.lt_of_lt_of_le h1 hS.1) h2]; exact hS.2.1 x h1 h2, fun x hx => by
    rcases List.mem_append.mp hx with h | h
    · exact hS.2.2 x h
    · exact hLL x h⟩
  have c1 : S.1.1 - n0 + (S'.1.1 - S.1.1) = S'.1.1 - n0 := by omega
  have c2 : S.1.2 - t0 + (S'.1.2 - S.1.2) = S'.1.2 - t0 := by omega
  rw [c1, c2] at X'
  obtain ⟨t2, a1, b1⟩ := kk (by omega) (by omega) _ _ T'.heap (locs ++ L) real hq' (by rw [e1]; exact hP1) hS1 hL T' rfl X'
  refine ⟨t2, st2 t2 ?_, b1⟩
  have e3 : (v.toList ++ st').map (am_v b0 sv) = (v.map (am_v b0 sv)).toList ++ st'.map (am_v b0 sv) := by
    cases v <;> simp
  rw [e3] at a1
  exact a1
/-- what a call asks of its callee -/
theorem am_gm_of {g : am_M} (h : am_gm g = true) (h3 : ¬ g.2.2.2.2.2.2.2.2.1 = 3) : ((g.1.cls ≠ "java/lang/invoke/MethodHandle" ∧ g.1.cls ≠ "java/lang/invoke/VarHandle") ∧ (parseMethodDescriptor g.1.desc).map (fun d => d.parameters.length) = some g.2.2.2.2.2.2.2.1 ∧ Cond.code g.1 g.2.1 g.2.2.1 g.2.2.2.1 ∈ am_w ∧ Cond.initialized g.1.cls ∈ am_w ∧ plainFor g.1 = true ∧ am_rn g.2.2.2.2.2.2.2.2.2.1 = g.1.cls) ∧ (g.2.2.2.2.2.2.2.2.1 = 0 → Cond.instanceMethod g.1 ∈ am_w ∧ Cond.selects g.1.cls g.1 g.1 ∈ am_w) ∧ (g.2.2.2.2.2.2.2.2.1 = 1 → Cond.static g.1 ∈ am_w) ∧ (g.2.2.2.2.2.2.2.2.1 = 2 → Cond.instanceMethod g.1 ∈ am_w ∧ g.1.name = "<init>" ∧ g.2.2.2.1 = none) := by
  unfold am_gm at h
  rw [if_neg h3] at h
  simp only [Bool.and_eq_true, decide_eq_true_eq] at h
  obtain ⟨⟨⟨⟨⟨⟨h1, h2⟩, h4⟩, h5⟩, h6⟩, h7⟩, h8⟩ := h
  refine ⟨⟨h1, h2, am_has_mem h4, am_has_mem h5, h6, h7⟩, fun hk => ?_, fun hk => ?_, fun hk => ?_⟩
  · rw [if_pos hk, Bool.and_eq_true] at h8
    exact ⟨am_has_mem h8.1, am_has_mem h8.2⟩
  · rw [if_neg (by omega), if_pos hk] at h8
    exact am_has_mem h8
  · rw [if_neg (by omega), if_neg (by omega)] at h8
    simp only [Bool.and_eq_true, decide_eq_true_eq] at h8
    exact ⟨am_has_mem h8.1.1, h8.1.2, h8.2⟩
theorem am_gm_cn {g : am_M} (h : am_gm g = true) : am_rn g.2.2.2.2.2.2.2.2.2.1 = g.1.cls := by
  by_cases h3 : g.2.2.2.2.2.2.2.2.1 = 3
  · unfold am_gm at h
    rw [if_pos h3] at h
    exact of_decide_eq_true h
  · exact (am_gm_of h h3).1.2.2.2.2.2
theorem am_callB {g : am_M} {n index : Nat} (hts : ∀ w ∈ am_w, w.before args s = true) (hfr : fr ≤ R.frames) (hlo : lo ≤ R.locals) (h : am_gc g n fr lo = true) (hgm : am_gm g = true) (h3 : ¬ g.2.2.2.2.2.2.2.2.1 = 3) (hl : (Cond.methodLink own index g.1).before args s = true) : CallB R s args own index g.1 g.2.1 g.2.2.1 g.2.2.2.1 (am_wm g) (am_rm g S S') (S'.1.1 - S.1.1) (S'.1.2 - S.1.2) n := by
  simp only [am_gc, Bool.and_eq_true, decide_eq_true_eq] at h
  obtain ⟨⟨h1, h2⟩, h4⟩ := h
  obtain ⟨⟨g1, g2, g3, g4, g5, g6⟩, -⟩ := am_gm_of hgm h3
  refine ⟨rfl, rfl, by show g.2.2.2.2.2.1 + 1 ≤ R.frames; omega, by show 8 + (g.2.2.1 + 11) + g.2.2.2.2.2.2.1 ≤ R.locals; omega, fun w hw a' U hW => ?_, List.mem_cons_self, hts _ g3, hts _ g4, g1, fun sig hs => ?_, hl⟩
  · have hm : w ∈ am_w := by
      rcases List.mem_cons.mp hw with rfl | hw
      · exact g3
      · exact hw
    exact word_at hW (good_of_word (List.mem_filter.mp hm).2) (hts w hm)
  · rw [hs] at g2
    have g7 := Option.some.inj g2
    dsimp only at g7
    omega
theorem am_pre {H : Heap} {locs : List Loc} {vs : List Value} (hz : H.size = b0 + S.1.1) (hP : va_P D vwCl (am_ws b0 cid S) H) (hK : va_K D vwCl (am_tys cid) s) (hO : am_O b0 sv X s s.heap) (hS : va_S (am_A b0) s.heap H locs) : ∀ U : State, U.heap = H → s.WarmedH U.vm → am_Pc X D cid b0 sv vs S (vs.map (am_v b0 sv)).toArray U := by
  intro U hU hW
  refine ⟨rfl, by rw [hU]; exact hz, by rw [hU]; exact hP, va_K.moved hW.alike hK, ?_⟩
  rw [hU]
  exact (hO.kept hS.2.1).warm hW
end AMV
