/-! THE SIMULATION: what the abstract machine does, the machine does. -/
def am_A (b0 : Nat) : Nat → Prop := fun q => b0 ≤ q
def am_v (b0 : Nat) (sv : Nat → Option Nat) (v : Value) : Value := match v with
  | .ref k => .ref (b0 + k)
  | .retAddr t => va_rf (sv t)
  | w => w
def am_mp (b0 : Nat) (o : Option Nat) : Option Nat := o.map (fun k => b0 + k)
def am_fs (b0 : Nat) (S : am_S) (c t n : Nat) : List Value := (List.range n).map (fun k => if am_rt (am_ft t k) = true then va_rf (am_mp b0 (S.2.2.2.2 c k)) else .int (S.2.2.1 c k))
def am_e (b0 : Nat) (cid : Nat → ClassId) (S : am_S) (c : Nat) : va_E :=
  if (S.2.1 c).1 < 13 then .inr ((S.2.1 c).1, am_fs b0 S c (S.2.1 c).1 (S.2.1 c).2)
  else if (S.2.1 c).1 = 22 then .inl (cid 22, (S.2.1 c).2, .inr (.inl (S.2.2.2.1 c)))
  else if (S.2.1 c).1 = 23 ∨ (S.2.1 c).1 = 24 then .inl (cid (S.2.1 c).1, (S.2.1 c).2, .inr (.inr (.inr (.inr (fun j => am_mp b0 (S.2.2.2.2 c j))))))
  else .inl (cid (S.2.1 c).1, (S.2.1 c).2, .inl (S.2.2.1 c))
def am_ws (b0 : Nat) (cid : Nat → ClassId) (S : am_S) : va_W := (List.range S.1.1).map (fun c => (b0 + c, am_e b0 cid S c))
theorem am_ws_at {b0 : Nat} {cid : Nat → ClassId} {S : am_S} {a : Nat} (h : a < S.1.1) : (am_ws b0 cid S)[a]? = some (b0 + a, am_e b0 cid S a) := by
  unfold am_ws
  rw [List.getElem?_map, List.getElem?_range h]
  rfl
theorem am_ws_of {b0 : Nat} {cid : Nat → ClassId} {S : am_S} {a : Nat} {x : Nat × va_E} (h : (am_ws b0 cid S)[a]? = some x) : a < S.1.1 ∧ x = (b0 + a, am_e b0 cid S a) := by
  have hl : a < S.1.1 := by
    have := (List.getElem?_eq_some_iff.mp h).1
    simpa [am_ws] using this
  rw [am_ws_at hl] at h
  exact ⟨hl, (Option.some.inj h).symm⟩
theorem am_ws_D {b0 : Nat} {cid : Nat → ClassId} {S : am_S} : va_D (am_A b0) (am_ws b0 cid S) := by
  refine ⟨fun i j x y hi hj hxy => ?_, fun k x hk => ?_⟩
  · obtain ⟨-, rfl⟩ := am_ws_of hi
    obtain ⟨-, rfl⟩ := am_ws_of hj
    have h : b0 + i = b0 + j := hxy
    omega
  · obtain ⟨-, rfl⟩ := am_ws_of hk
    exact Nat.le_add_right b0 k
theorem am_ws_set {b0 : Nat} {cid : Nat → ClassId} {S S' : am_S} {a : Nat} {e : va_E} (hn : S'.1.1 = S.1.1) (ha : a < S.1.1) (he : am_e b0 cid S' a = e) (ho : ∀ k, k ≠ a → am_e b0 cid S' k = am_e b0 cid S k) : (am_ws b0 cid S).set a (b0 + a, e) = am_ws b0 cid S' := by
  apply List.ext_getElem?
  intro k
  by_cases hk : k < S.1.1
  · by_cases hka : k = a
    · subst hka
      rw [am_ws_at (by rw [hn]; exact hk), he, List.getElem?_set_self (by simpa [am_ws] using hk)]
    · rw [List.getElem?_set_ne (fun h => hka h.symm), am_ws_at hk, am_ws_at (by rw [hn]; exact hk), ho k hka]
  · rw [List.getElem?_eq_none (by simp [am_ws]; omega), List.getElem?_eq_none (by simp [am_ws, hn]; omega)]
theorem am_up_ne {α : Type} {f : Nat → Nat → α} {a k c : Nat} {v : α} (h : c ≠ a) : am_up f a k v c = f c := by
  funext b
  simp [am_up, h]
theorem am_up_I (f : Nat → Nat → Int32) (a k : Nat) (v : Int32) : am_up f a k v a = upd (f a) k v := by
  funext b
  simp [am_up, upd]
theorem am_up_J (f : Nat → Nat → Int64) (a k : Nat) (v : Int64) : am_up f a k v a = vp_updL (f a) k v := by
  funext b
  simp [am_up, vp_updL]
theorem am_e_kI {b0 : Nat} {cid : Nat → ClassId} {S : am_S} {a : Nat} (h : (S.2.1 a).1 = 20 ∨ (S.2.1 a).1 = 21) : am_e b0 cid S a = .inl (cid (S.2.1 a).1, (S.2.1 a).2, .inl (S.2.2.1 a)) := by
  unfold am_e
  rw [if_neg (by omega), if_neg (by omega), if_neg (by omega)]
theorem am_e_kJ {b0 : Nat} {cid : Nat → ClassId} {S : am_S} {a : Nat} (h : (S.2.1 a).1 = 22) : am_e b0 cid S a = .inl (cid 22, (S.2.1 a).2, .inr (.inl (S.2.2.2.1 a))) := by
  unfold am_e
  rw [if_neg (by omega), if_pos h]
theorem am_e_kR {b0 : Nat} {cid : Nat → ClassId} {S : am_S} {a : Nat} (h : (S.2.1 a).1 = 23 ∨ (S.2.1 a).1 = 24) : am_e b0 cid S a = .inl (cid (S.2.1 a).1, (S.2.1 a).2, .inr (.inr (.inr (.inr (fun j => am_mp b0 (S.2.2.2.2 a j)))))) := by
  unfold am_e
  rw [if_neg (by omega), if_neg (by omega), if_pos h]
theorem am_e_kO {b0 : Nat} {cid : Nat → ClassId} {S : am_S} {a : Nat} (h : (S.2.1 a).1 < 13) : am_e b0 cid S a = .inr ((S.2.1 a).1, am_fs b0 S a (S.2.1 a).1 (S.2.1 a).2) := by
  unfold am_e
  rw [if_pos h]
/-- another cell, when only ints, longs or references of cell a change -/
theorem am_e_ne {b0 : Nat} {cid : Nat → ClassId} {S S' : am_S} {k : Nat} (hs : S'.2.1 k = S.2.1 k) (h1 : S'.2.2.1 k = S.2.2.1 k) (h2 : S'.2.2.2.1 k = S.2.2.2.1 k) (h3 : S'.2.2.2.2 k = S.2.2.2.2 k) : am_e b0 cid S' k = am_e b0 cid S k := by
  unfold am_e am_fs
  rw [hs, h1, h2, h3]
theorem am_fs_len {b0 : Nat} {S : am_S} {c t n : Nat} : (am_fs b0 S c t n).length = n := by simp [am_fs]
theorem am_fs_at {b0 : Nat} {S : am_S} {c t n k : Nat} (h : k < n) : (am_fs b0 S c t n)[k]? = some (if am_rt (am_ft t k) = true then va_rf (am_mp b0 (S.2.2.2.2 c k)) else .int (S.2.2.1 c k)) := by
  unfold am_fs
  rw [List.getElem?_map, List.getElem?_range h]
  rfl
theorem am_fs_setI {b0 : Nat} {S : am_S} {a t n k : Nat} {x : Int32} (hr : am_rt (am_ft t k) = false) : (am_fs b0 S a t n).set k (.int x) = am_fs b0 (am_setI S a k x) a t n := by
  apply List.ext_getElem?
  intro j
  by_cases hj : j < n
  · rw [am_fs_at hj]
    by_cases h : k = j
    · subst h
      rw [List.getElem?_set_self (by rw [am_fs_len]; exact hj), hr]
      simp [am_setI, am_up]
    · rw [List.getElem?_set_ne h, am_fs_at hj]
      simp [am_setI, am_up, Ne.symm h]
  · rw [List.getElem?_eq_none (by rw [List.length_set, am_fs_len]; omega), List.getElem?_eq_none (by rw [am_fs_len]; omega)]
theorem am_fs_setR {b0 : Nat} {S : am_S} {a t n k x : Nat} (hr : am_rt (am_ft t k) = true) : (am_fs b0 S a t n).set k (.ref (b0 + x)) = am_fs b0 (am_setR S a k x) a t n := by
  apply List.ext_getElem?
  intro j
  by_cases hj : j < n
  · rw [am_fs_at hj]
    by_cases h : k = j
    · subst h
      rw [List.getElem?_set_self (by rw [am_fs_len]; exact hj), hr]
      simp [am_setR, am_up, am_mp, va_rf]
    · rw [List.getElem?_set_ne h, am_fs_at hj]
      simp [am_setR, am_up, Ne.symm h]
  · rw [List.getElem?_eq_none (by rw [List.length_set, am_fs_len]; omega), List.getElem?_eq_none (by rw [am_fs_len]; omega)]
/-! the words -/
def am_w : List Cond := lw_tbl.filter goodWord
theorem am_tb_mem {p : Nat} {w : Cond} (h : am_tb p = some w) : w ∈ lw_tbl := by
  have hm : w ∈ am_tbl (p / 1000) := List.mem_of_getElem? h
  unfold lw_tbl tables_1
  unfold am_tbl at hm
  split at hm
  all_goals (first | (simp only [List.mem_append]; simp only [hm, true_or, or_true]) | (simp at hm))
theorem am_has_mem {ts : List Nat} {j : Nat} {w : Cond} (h : am_has ts j w = true) : w ∈ am_w := by
  unfold am_has at h
  rw [Bool.and_eq_true] at h
  obtain ⟨h1, h2⟩ := h
  split at h1
  · exact List.mem_filter.mpr ⟨am_tb_mem (of_decide_eq_true h1), h2⟩
  · cases h1
/-! the old cells, the words that aren't kept by themselves -/
def am_tys (cid : Nat → ClassId) : List (ClassId × FieldType) := [(cid 20, .int), (cid 21, .boolean), (cid 22, .long), (cid 23, .object "PassScreener$Body"), (cid 24, .array .int)]
def am_txt : String := "gap   size  body  low   high  turn  phase lift  tilt  node  fuel  "
def am_O (b0 : Nat) (sv : Nat → Option Nat) (X : am_X) (U : State) (H : Heap) : Prop :=
  (∃ oa, sv 0 = some oa ∧ va_Z "PassScreener$Picture" "ORDER" "[I" (.ref oa) (am_A b0) U H ∧ va_T .int oa (X 0).1 (fun j => .int ((X 0).2 j)) (am_A b0) U H) ∧
  va_Z "java/lang/String" "COMPACT_STRINGS" "Z" (.int 1) (am_A b0) U H ∧
  va_Z "jdk/internal/util/Preconditions" "SIOOBE_FORMATTER" "Ljava/util/function/BiFunction;" (va_rf (sv 9)) (am_A b0) U H ∧
  (∃ ka kv, sv 1 = some ka ∧ sv 3 = some kv ∧ vk_R "PassScreener$SkyReader" 111 am_txt ka U ∧ va_O "java/lang/String" ka (am_A b0) U H ∧ va_OF "java/lang/String" "coder" "B" (.int 0) ka (am_A b0) U H ∧ va_OF "java/lang/String" "value" "[B" (.ref kv) ka (am_A b0) U H ∧ va_T .byte kv (X 3).1 (fun j => .int ((X 3).2 j)) (am_A b0) U H) ∧
  (∃ sa, sv 2 = some sa ∧ va_T .int sa (X 2).1 (fun j => .int ((X 2).2 j)) (am_A b0) U H) ∧
  (∀ q ∈ am_nl, va_Nw (.methodLinkNest q.1 q.2.1 q.2.2.1 q.2.2.2) U) ∧ va_AO "PassScreener$Body" U ∧ va_Nw (.arrayOver (.array .int)) U
theorem am_keep {b0 : Nat} {H0 H : Heap} {locs : List Loc} (hS : va_S (am_A b0) H0 H locs) : ∀ q : Nat, q < H0.size → ¬ am_A b0 q → H[q]? = H0[q]? := hS.2.1
/-! the locals -/
def am_L (b0 : Nat) (sv : Nat → Option Nat) (real : Array Slot) (nL : Nat) (ls : List Value) : Prop := real.size = nL ∧ lv_wf real ∧ ls.length ≤ nL ∧ ∀ (i : Nat) (v : Value), ls[i]? = some v → v ≠ .null → real[i]? = some (.val (am_v b0 sv v))
def am_lv (b0 : Nat) (sv : Nat → Option Nat) (ls : List Value) : List (Nat × Value) := (List.range ls.length).filterMap (fun i => match ls[i]? with
  | some v => if v = .null then none else some (i, am_v b0 sv v)
  | none => none)
theorem am_lv_mem {b0 : Nat} {sv : Nat → Option Nat} {ls : List Value} {x : Nat × Value} : x ∈ am_lv b0 sv ls ↔ ∃ v, ls[x.1]? = some v ∧ v ≠ .null ∧ x.2 = am_v b0 sv v := by
  unfold am_lv
  rw [List.mem_filterMap]
  constructor
  · rintro ⟨i, hi, h⟩
    split at h
    · rename_i v hv
      split at h
      · cases h
      · rename_i hne
        cases h
        exact ⟨v, hv, hne, rfl⟩
    · cases h
  · rintro ⟨v, hv, hne, hx⟩
    refine ⟨x.1, List.mem_range.mpr (List.getElem?_eq_some_iff.mp hv).1, ?_⟩
    rw [hv]
    simp only [hne, if_false]
    rw [← hx]
theorem am_L.has {b0 : Nat} {sv : Nat → Option Nat} {real : Array Slot} {nL : Nat} {ls : List Value} (h : am_L b0 sv real nL ls) : lv_has real nL (am_lv b0 sv ls) := by
  refine ⟨h.1, h.2.1, fun x hx => ?_⟩
  obtain ⟨v, h1, h2, h3⟩ := am_lv_mem.mp hx
  rw [h3]
  exact h.2.2.2 _ v h1 h2
theorem am_v_cat {b0 : Nat} {sv : Nat → Option Nat} {v : Value} : (am_v b0 sv v).category = v.category := by
  cases v with
  | retAddr t =>
    unfold am_v va_rf
    dsimp only
    cases sv t <;> rfl
  | _ => rfl
theorem am_st_len {ls : List Value} {i : Nat} {v : Value} : (am_st ls i v).length = ls.length := by
  unfold am_st
  split
  · simp
  · split
    · split <;> simp
    · simp
theorem am_st_at {ls : List Value} {i j : Nat} {v w : Value} (h : (am_st ls i v)[j]? = some w) (hw : w ≠ .null) : (j = i ∧ w = v) ∨ (j ≠ i ∧ ls[j]? = some w ∧ ¬ (j + 1 = i ∧ w.category = 2)) := by
  by_cases hj : j = i
  · subst hj
    refine Or.inl ⟨rfl, ?_⟩
    have key : ∀ L : List Value, (L.set j v)[j]? = some w → w = v := fun L h => by
      have hl : j < L.length := by
        have := (List.getElem?_eq_some_iff.mp h).1
        simpa using this
      rw [List.getElem?_set_self hl] at h
      exact (Option.some.inj h).symm
    exact key _ h
  · refine Or.inr ⟨hj, ?_⟩
    unfold am_st at h
    rw [List.getElem?_set_ne (fun q => hj q.symm)] at h
    split at h
    · exact ⟨h, fun q => by omega⟩
    · rename_i k
      split at h
      · rename_i x hx
        split at h
        · rename_i hc
          by_cases hk : k = j
          · subst hk
            rw [List.getElem?_set] at h
            simp only [if_true] at h
            split at h
            · exact absurd (Option.some.inj h).symm hw
            · cases h
          · rw [List.getElem?_set_ne hk] at h
            exact ⟨h, fun q => hk (by omega)⟩
        · rename_i hc
          refine ⟨h, fun q => ?_⟩
          have hkj : k = j := by omega
          subst hkj
          rw [hx] at h
          cases h
          exact hc q.2
      · exact ⟨h, fun q => by
          rename_i hx
          have hkj : k = j := by omega
          subst hkj
          rw [hx] at h
          cases h⟩
theorem am_L.st1 {b0 : Nat} {sv : Nat → Option Nat} {real' : Array Slot} {nL i : Nat} {ls : List Value} {x : Value} (hl : ls.length ≤ nL) (h : lv_has real' nL ((i, am_v b0 sv x) :: (am_lv b0 sv ls).filter (fun q => !(q.1 == i) && !(q.1 + 1 == i && q.2.category == 2)))) : am_L b0 sv real' nL (am_st ls i x) := by
  refine ⟨h.1, h.2.1, by rw [am_st_len]; exact hl, fun j w hj hw => ?_⟩
  rcases am_st_at hj hw with ⟨rfl, rfl⟩ | ⟨h1, h2, h3⟩
  · exact h.2.2 _ List.mem_cons_self
  · refine h.2.2 (j, am_v b0 sv w) (List.mem_cons_of_mem _ (List.mem_filter.mpr ⟨am_lv_mem.mpr ⟨w, h2, hw, rfl⟩, ?_⟩))
    simp only [am_v_cat, Bool.and_eq_true, Bool.not_eq_true', beq_eq_false_iff_ne, ne_eq, h1, not_false_eq_true, true_and, Bool.and_eq_false_iff]
    by_cases hc : j + 1 = i
    · exact Or.inr (fun q => h3 ⟨hc, q⟩)
    · exact Or.inl hc
theorem am_L.st2 {b0 : Nat} {sv : Nat → Option Nat} {real' : Array Slot} {nL i : Nat} {ls : List Value} {x : Value} (hl : ls.length ≤ nL) (h : lv_has real' nL ((i, am_v b0 sv x) :: (am_lv b0 sv ls).filter (fun q => !(q.1 == i) && (!(q.1 == i + 1) && !(q.1 + 1 == i && q.2.category == 2))))) : am_L b0 sv real' nL (am_st2 ls i x) := by
  refine ⟨h.1, h.2.1, by unfold am_st2; rw [List.length_set, am_st_len]; exact hl, fun j w hj hw => ?_⟩
  unfold am_st2 at hj
  by_cases hji : i + 1 = j
  · subst hji
    rw [List.getElem?_set] at hj
    simp only [if_true] at hj
    split at hj
    · exact absurd (Option.some.inj hj).symm hw
    · cases hj
  rw [List.getElem?_set_ne hji] at hj
  rcases am_st_at hj hw with ⟨rfl, rfl⟩ | ⟨h1, h2, h3⟩
  · exact h.2.2 _ List.mem_cons_self
  · refine h.2.2 (j, am_v b0 sv w) (List.mem_cons_of_mem _ (List.mem_filter.mpr ⟨am_lv_mem.mpr ⟨w, h2, hw, rfl⟩, ?_⟩))
    simp only [am_v_cat, Bool.and_eq_true, Bool.not_eq_true', beq_eq_false_iff_ne, ne_eq, h1, not_false_eq_true, true_and, Bool.and_eq_false_iff]
    refine ⟨fun q => hji q.symm, ?_⟩
    by_cases hc : j + 1 = i
    · exact Or.inr (fun q => h3 ⟨hc, q⟩)
    · exact Or.inl hc
theorem am_nx_of {P : List (Nat × am_I)} {i pc len : Nat} (h : am_nx P i pc len = true) : ∃ q, P[i + 1]? = some (pc + len, q) := by
  unfold am_nx at h
  split at h
  · rename_i r hr
    obtain ⟨a, b⟩ := r
    have : a = pc + len := by simpa using h
    subst this
    exact ⟨b, hr⟩
  · cases h
theorem am_tg_of {P : List (Nat × am_I)} {pc t : Nat} {off : Int} (h : am_tg P pc t off = true) : ∃ (x : Nat) (q : am_I), P[t]? = some (x, q) ∧ (pc : Int) + off = (x : Int) := by
  unfold am_tg at h
  split at h
  · rename_i r hr
    exact ⟨r.1, r.2, hr, of_decide_eq_true h⟩
  · cases h
def am_Cx (X : am_X) (p : Program) (R : Room) (s : State) (mid : MethodId) (args : Array Value) (meth : Method) (c : Code) (D : va_G) (cid : Nat → ClassId) (b0 n0 : Nat) (sv : Nat → Option Nat) (own mn : String) (cc : ByteArray) (fr lo nL : Nat) : Prop :=
  p.tables.exec = Jvm.exec ∧ c.code = cc ∧ c.maxLocals = nL ∧ meth.locks = false ∧ meth.name = mn ∧ s.vm.findClass own = some mid.cls ∧ (∀ w ∈ am_w, w.before args s = true) ∧ va_K D vwCl (am_tys cid) s ∧ am_O b0 sv X s s.heap ∧ s.heap.size = b0 + n0 ∧ fr ≤ R.frames ∧ lo ≤ R.locals
def am_At (p : Program) (l : Launch) (e : Env) (R : Room) (s : State) (mid : MethodId) (args : Array Value) (below : List Frame) (meth : Method) (c : Code) (Q : State → Prop) (D : va_G) (cid : Nat → ClassId) (b0 n0 t0 : Nat) (sv : Nat → Option Nat) (nL : Nat) (P : List (Nat × am_I)) (i : Nat) (ls st : List Value) (S : am_S) : Prop :=
  n0 ≤ S.1.1 → t0 ≤ S.1.2 → ∀ (pc : Nat) (q : am_I) (H : Heap) (locs : List Loc) (real : Array Slot), P[i]? = some (pc, q) → va_P D vwCl (am_ws b0 cid S) H → va_S (am_A b0) s.heap H locs → am_L b0 sv real nL ls →
    W p l e R s mid args below meth c H locs (S.1.1 - n0) (S.1.2 - t0) Q (F0 mid pc real (st.map (am_v b0 sv)))
