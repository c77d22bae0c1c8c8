/-! THE LAW'S START: its world, and the claim out of one run of the abstract machine -/
def am_S0 : am_S := ((0, 0), (fun _ => (0, 0)), (fun _ _ => 0), (fun _ _ => 0), (fun _ _ => none))
def am_ord : List Int32 := [8, 0, 1, 3, 4, 5, 7]
def am_byt : List Int32 := [103, 97, 112, 32, 32, 32, 115, 105, 122, 101, 32, 32, 98, 111, 100, 121, 32, 32, 108, 111, 119, 32, 32, 32, 104, 105, 103, 104, 32, 32, 116, 117, 114, 110, 32, 32, 112, 104, 97, 115, 101, 32, 108, 105, 102, 116, 32, 32, 116, 105, 108, 116, 32, 32, 110, 111, 100, 101, 32, 32, 102, 117, 101, 108, 32, 32]
/-- the old arrays that are read: ORDER, the script, the bytes of the text -/
def am_Xs (L : Nat) (xs : Nat → Int32) : am_X := fun t => if t = 0 then (7, fun j => am_ord.getD j 0) else if t = 2 then (L, xs) else if t = 3 then (66, fun j => am_byt.getD j 0) else (0, fun _ => 0)
def am_flat : List Cond := flatC (Jvm.Cond.and given_1 narrow_1)
def am_ot : Term := Jvm.Term.static "PassScreener$Picture" "ORDER" "[I"
def am_tt : Term := Jvm.Term.string "PassScreener$SkyReader" 111
def am_vt : Term := Jvm.Term.field am_tt "java/lang/String" "value" "[B"
theorem am_f4 : am_flat[4]? = some (.isRef am_ot) := by decide +kernel
theorem am_f5 : am_flat[5]? = some (.arrayOf am_ot .int) := by decide +kernel
theorem am_f6 : am_flat[6]? = some (.eq (.length am_ot) (.int (Int32.ofNat 7))) := by decide +kernel
theorem am_f7 : ∀ j, j < 7 → am_flat[7 + j]? = some (.eq (.elem am_ot (.int (Int32.ofNat j))) (.int (am_ord.getD j 0))) := by decide +kernel
theorem am_f14 : am_flat[14]? = some (.eq (.static "java/lang/String" "COMPACT_STRINGS" "Z") (.int 1)) := by decide +kernel
theorem am_f15 : am_flat[15]? = some (.isRef (.static "jdk/internal/util/Preconditions" "SIOOBE_FORMATTER" "Ljava/util/function/BiFunction;")) := by decide +kernel
theorem am_f19 : am_flat[19]? = some (.exactly am_tt "java/lang/String") := by decide +kernel
theorem am_f20 : am_flat[20]? = some (.eq (.field am_tt "java/lang/String" "coder" "B") (.int 0)) := by decide +kernel
theorem am_f21 : am_flat[21]? = some (.arrayOf am_vt .byte) := by decide +kernel
theorem am_f22 : am_flat[22]? = some (.eq (.length am_vt) (.int (Int32.ofNat 66))) := by decide +kernel
theorem am_f23 : ∀ j, j < 66 → am_flat[23 + j]? = some (.eq (.elem am_vt (.int (Int32.ofNat j))) (.int (am_byt.getD j 0))) := by decide +kernel
theorem am_inst : ∀ ci, ci < 13 → am_has [2120, 2033, 1106, 2001, 2189, 1214, 2154, 1099, 1050, 1032, 2073, 1024, 6222] ci (.instantiable (am_rn ci) (am_nf ci)) = true := by decide +kernel
theorem am_worlds {s : State} {args : Array Value} (hts : ∀ w ∈ lw_tbl, w.before args s = true) : ∃ (D : va_G) (cid : Nat → ClassId), va_K D vwCl (am_tys cid) s := by
  have hw : ∀ w ∈ am_w, w.before args s = true := fun w h => hts w (List.mem_filter.mp h).1
  have h1 : ∀ ci : Nat, ∃ q : ClassId × (Nat → Nat), ci < 13 → u_Kn s (am_rn ci) (am_fd ci) (am_nf ci) q.1 q.2 := by
    intro ci
    by_cases h : ci < 13
    · obtain ⟨cC, iS, hk⟩ := u_known (n := am_nf ci) hw (am_inw h) (hw _ (am_has_mem (am_inst ci h)))
      exact ⟨(cC, iS), fun _ => hk⟩
    · exact ⟨(0, fun _ => 0), fun z => absurd z h⟩
  obtain ⟨f, hf⟩ := Classical.axiomOfChoice h1
  have harr : ∀ ty : FieldType, (Cond.arrayClass ty).before args s = true → (∀ C, ty ≠ .object C) → ∃ cA, ArrOfT s cA ty ∧ va_RA s cA ty := by
    intro ty h hne
    obtain ⟨cA, kA, comp, g1, g2, g3⟩ := Cond.arrayClass_spec h
    refine ⟨cA, fun n z => ⟨fun k h => (by cases h), kA, g2, comp, g3⟩, ?_⟩
    cases ty with
    | object C => exact absurd rfl (hne C)
    | _ => exact g1
  obtain ⟨c20, a20⟩ := harr .int (hts _ (am_tb_mem (p := 1048) (by decide +kernel))) (fun C h => by cases h)
  obtain ⟨c21, a21⟩ := harr .boolean (hts _ (am_tb_mem (p := 1239) (by decide +kernel))) (fun C h => by cases h)
  obtain ⟨c22, a22⟩ := harr .long (hts _ (am_tb_mem (p := 2118) (by decide +kernel))) (fun C h => by cases h)
  obtain ⟨comp3, c23, k23, g31, -, g33, g34, g35⟩ := Cond.arrayOver_spec (hts (.arrayOver (.object "PassScreener$Body")) (am_tb_mem (p := 1105) (by decide +kernel)))
  obtain ⟨comp4, c24, k24, g41, g42, g43, g44⟩ := Cond.arrayOver_specA (hts (.arrayOver (.array .int)) (am_tb_mem (p := 1056) (by decide +kernel)))
  refine ⟨(fun k => (f k).1, fun k => (f k).2), fun k => if k = 20 then c20 else if k = 21 then c21 else if k = 22 then c22 else if k = 23 then c23 else c24, fun ci q hq => ?_, fun k q hq => ?_⟩
  · have hl : ci < 13 := (List.getElem?_eq_some_iff.mp hq).1
    have e := (am_clw hl).symm.trans hq
    cases e
    exact hf ci hl
  · have hl : k < 5 := (List.getElem?_eq_some_iff.mp hq).1
    match k, hl, hq with
    | 0, _, hq => cases hq; exact a20
    | 1, _, hq => cases hq; exact a21
    | 2, _, hq => cases hq; exact a22
    | 3, _, hq => cases hq; exact ⟨fun n z => ⟨fun k h => (by cases h), k23, g33, comp3, g34⟩, k23, comp3, g33, g34, g31, g35⟩
    | 4, _, hq => cases hq; exact ⟨fun n z => ⟨fun k h => (by cases h), k24, g42, comp4, g43⟩, g44⟩
theorem am_olds {s : State} {b L : Nat} {xs : Nat → Int32} (hL : L < 2 ^ 31) (hts : ∀ w ∈ lw_tbl, w.before #[Value.ref b] s = true) (hX : va_X b L xs s s.heap) (hbl : b < s.heap.size) (hgv : (Jvm.Cond.and given_1 narrow_1).before #[Value.ref b] s = true) : ∃ sv : Nat → Option Nat, sv 2 = some b ∧ am_O s.heap.size sv (am_Xs L xs) s s.heap := by
  have hs : ∀ w ∈ am_flat, w.before #[Value.ref b] s = true := flat_of_before _ hgv
  have hA : ∀ a : Nat, a < s.heap.size → ¬ am_A s.heap.size a := fun a h => Nat.not_le.mpr h
  have hat : ∀ {k : Nat} {w : Cond}, am_flat[k]? = some w → w.before #[Value.ref b] s = true := fun h => hs _ (List.mem_of_getElem? h)
  obtain ⟨oa, ho1, ho2⟩ := va_Tof (ty := .int) (N := 7) (f := fun j => .int (am_ord.getD j 0)) (by decide) (hat am_f5) (va_eqt (hat am_f6)) (fun j hj => va_eqt (hat (am_f7 j hj))) hA
  have hZ0 := va_Zref (C := "PassScreener$Picture") (n := "ORDER") (d := "[I") (hts _ (am_tb_mem (p := 2195) (by decide +kernel))) (hts _ (am_tb_mem (p := 1013) (by decide +kernel))) ho1 hA
  have hZ1 := va_Zof (C := "java/lang/String") (n := "COMPACT_STRINGS") (d := "Z") (hts _ (am_tb_mem (p := 3077) (by decide +kernel))) (hts _ (am_tb_mem (p := 1015) (by decide +kernel))) (va_eqi (hat am_f14)) hA
  have hZ9 := va_Zqof (C := "jdk/internal/util/Preconditions") (n := "SIOOBE_FORMATTER") (d := "Ljava/util/function/BiFunction;") (hts _ (am_tb_mem (p := 3093) (by decide +kernel))) (hts _ (am_tb_mem (p := 1017) (by decide +kernel))) (hat am_f15) hA
  obtain ⟨v9, hv9⟩ : ∃ o : Option Nat, va_Z "jdk/internal/util/Preconditions" "SIOOBE_FORMATTER" "Ljava/util/function/BiFunction;" (va_rf o) (am_A s.heap.size) s s.heap := by
    rcases hZ9 with h | ⟨t, h⟩
    · exact ⟨none, h⟩
    · exact ⟨some t, h⟩
  obtain ⟨adK, adV, hS, hev⟩ := vk_Sof (args := #[Value.ref b]) (s := s) (N := 1) (tm := fun _ => am_tt) (len := [66]) (byt := [am_byt]) (A := am_A s.heap.size) (fun i hi => by
    have : i = 0 := by omega
    subst this
    decide) (fun i hi => hat am_f19) (fun i hi => hat am_f20) (fun i hi => hat am_f21) (fun i hi => by
    have : i = 0 := by omega
    subst this
    exact hat am_f22) (fun i hi j hj => by
    have : i = 0 := by omega
    subst this
    exact hat (am_f23 j hj)) (fun i j hi hj hij => absurd (show i = j by omega) hij) hA
  obtain ⟨k1, k2, k3, k4⟩ := hS.1 0 (by omega)
  have hR := vk_R.of (own := "PassScreener$SkyReader") (k := 111) (tx := am_txt) (a := adK 0) (hts _ (am_tb_mem (p := 3067) (by decide +kernel))) (hev 0 (by omega))
  obtain ⟨scr, x1, x2, x3, x4, x5⟩ := hX
  refine ⟨fun t => if t = 0 then some oa else if t = 1 then some (adK 0) else if t = 2 then some b else if t = 3 then some (adV 0) else v9, rfl, ⟨oa, rfl, hZ0, ho2⟩, hZ1, hv9, ⟨adK 0, adV 0, rfl, rfl, hR, k1, k2, k3, k4⟩, ⟨b, rfl, scr, x1, x2, x3, by show L ≤ _; omega, by rw [x4]; rfl, fun j hj => x5 j hj, hA b hbl⟩, ?_, va_AO.of (hts _ (am_tb_mem (p := 1105) (by decide +kernel))), hts (.arrayOver (.array .int)) (am_tb_mem (p := 1056) (by decide +kernel))⟩
  have hn1 := va_Nw.of rfl (hts (.methodLinkNest "PassScreener$Sky" 21 yX2_init "PassScreener") (am_tb_mem (p := 1107) (by decide +kernel)))
  have hn2 := va_Nw.of rfl (hts (.methodLinkNest "PassScreener$Trials" 13 yX2_init "PassScreener") (am_tb_mem (p := 2079) (by decide +kernel)))
  have hn3 := va_Nw.of rfl (hts (.methodLinkNest "PassScreener" 9 yX9_init "PassScreener") (am_tb_mem (p := 1033) (by decide +kernel)))
  have hn4 := va_Nw.of rfl (hts (.methodLinkNest "PassScreener" 77 yX6_init "PassScreener") (am_tb_mem (p := 2155) (by decide +kernel)))
  have hn5 := va_Nw.of rfl (hts (.methodLinkNest "PassScreener" 84 yX4_init "PassScreener") (am_tb_mem (p := 2190) (by decide +kernel)))
  intro q hq
  simp only [am_nl, List.mem_cons, List.not_mem_nil, or_false] at hq
  rcases hq with rfl | rfl | rfl | rfl | rfl
  · exact hn1
  · exact hn2
  · exact hn3
  · exact hn4
  · exact hn5
def R_law : String := "PassScreenerLaw"
def lw_P (b : Addr) (xs : List Int32) (args : Array Value) (s : State) : Prop := args = #[.ref b] ∧ s.IntsAt b xs ∧ xs.length ≤ 3072 ∧ (Jvm.Cond.and given_1 narrow_1).before args s = true
def lw_Q (_ : Array Value) (s : State) (o : Outcome) (t : State) : Prop := o = .returned (some (.int 1)) ∧ Framed s o t [] 600000 7302250
def lw_Z (below : List Frame) (a : Array Value) (s : State) : State → Prop := fun t => ∃ o, t.status = .running ∧ Ended t below o ∧ lw_Q a s o t
/-- the law's own end, with 1 on the stack, nothing written that was there before, its room as the claim has it -/
theorem lw_ret {p : Program} {l : Launch} {e : Env} {s : State} {m : MethodId} {below : List Frame} {meth : Method} {c : Code} {b : Nat} (hx : p.tables.exec = Jvm.exec) (hb : c.code = code) (hr : meth.sig.returnType = ret) (hlocks : meth.locks = false) {pc : Nat} {H : Heap} {ls : Array Slot} (hdg : decode code pc = .ok (.ireturn, 1)) : W p l e room_1 s m #[Value.ref b] below meth c H [] 600000 7302250 (lw_Z below #[Value.ref b] s) (F0 m pc ls [.int 1]) := by
  intro T hT X
  obtain ⟨fs, hret, hrun, hended, hW, hframe⟩ := X.leave (v := some (.int 1)) (hlocks := hlocks) (fun h => by rw [hr] at h; cases h)
  have hmeth' : T.vm.method? m = some meth := X.method'
  refine ⟨T.setFrames fs, ?_, .returned (some (.int 1)), hrun, hended, rfl, ⟨_, rfl⟩, hW, hframe⟩
  jvm_step X.here [X.here.top, hx, hb, hdg, hmeth', hr, ret, narrow_b1]
  (try refine ⟨rfl, ?_⟩); (try refine ⟨rfl, ?_⟩)
  first | (intro acts; rw [hret _ acts rfl rfl rfl]) | rw [hret _ _ rfl rfl rfl]
  exact Steps.refl _
/-- what holds at the law's entry: the machine, the code, the tables' words (any of lw_tbl by 'hts w (by decide +kernel)'), the script of L ints xs at the cell b, what the Statement gives of the start (any of its parts by flat_of_before) -/
def lw_At (p : Program) (s : State) (m : MethodId) (meth : Method) (c : Code) (b L : Nat) (xs : Nat → Int32) : Prop :=
  p.tables.exec = Jvm.exec ∧ c.code = code ∧ meth.sig.returnType = ret ∧ c.maxLocals = 4 ∧ s.vm.findClass R_law = some m.cls ∧ (∀ w ∈ lw_tbl, w.before #[Value.ref b] s = true) ∧ va_X b L xs s s.heap ∧ b < s.heap.size ∧ meth.locks = false ∧ (Jvm.Cond.and given_1 narrow_1).before #[Value.ref b] s = true
/-- the law's run on the abstract machine, whatever the script -/
def am_Law (L : Nat) (xs : Nat → Int32) : Prop := ∃ (f : Nat) (S' : am_S), am_run am_G (am_Xs L xs) f (am_G 362).2.2.2.2.1 0 [.retAddr 2, .null, .null, .null] [] am_S0 = some (some (.int 1), S') ∧ S'.1.1 ≤ 600000 ∧ S'.1.2 ≤ 7302250
theorem am_G362 : (am_G 362).2.1 = code ∧ (am_G 362).2.2.1 = 4 ∧ (am_G 362).1.name = "law" ∧ am_rn (am_G 362).2.2.2.2.2.2.2.2.2.1 = R_law ∧ (am_G 362).2.2.2.2.2.1 = 9 ∧ (am_G 362).2.2.2.2.2.2.1 = 226 ∧ (am_G 362).2.2.2.1 = some .boolean := ⟨rfl, rfl, rfl, rfl, rfl, rfl, rfl⟩
theorem am_start {p : Program} {e : Env} {s : State} {m : MethodId} {below : List Frame} {meth : Method} {c : Code} (l : Launch) {b L : Nat} {xs : Nat → Int32} (hL : L ≤ 3072) (hmn : meth.name = "law") (hlaw : am_Law L xs) (C0 : lw_At p s m meth c b L xs) : W p l e room_1 s m #[Value.ref b] below meth c s.heap [] 0 0 (lw_Z below #[Value.ref b] s) (entryFrame m ([Value.ref b] : List Value).toArray 4) := by
  obtain ⟨hx, hb, hr, hml, hown, hts, hX, hbl, hlocks, hgv⟩ := C0
  obtain ⟨D, cid, hK⟩ := am_worlds hts
  obtain ⟨sv, hsv, hO⟩ := am_olds (by omega) hts hX hbl hgv
  obtain ⟨f, S', hrun, hc1, hc2⟩ := hlaw
  obtain ⟨g1, g2, g3, g4, g5, g6, g7⟩ := am_G362
  have hw : ∀ w ∈ am_w, w.before #[Value.ref b] s = true := fun w h => hts w (List.mem_filter.mp h).1
  have C : am_Cx (am_Xs L xs) p room_1 s m #[Value.ref b] meth c D cid s.heap.size 0 sv (am_rn (am_G 362).2.2.2.2.2.2.2.2.2.1) (am_G 362).1.name (am_G 362).2.1 (am_G 362).2.2.2.2.2.1 (am_G 362).2.2.2.2.2.2.1 (am_G 362).2.2.1 := by
    rw [g1, g2, g3, g4, g5, g6]
    exact ⟨hx, hb, hml, hlocks, hmn, hown, hw, hK, hO, rfl, by decide, by decide⟩
  have hP0 : va_P D vwCl (am_ws s.heap.size cid am_S0) s.heap := fun k x h => by
    obtain ⟨h1, -⟩ := am_ws_of h
    exact absurd h1 (Nat.not_lt_zero _)
  have hle : (lg_sl ([Value.ref b] : List Value)).length ≤ 4 := Nat.le_of_ble_eq_true rfl
  rw [lg_entry_eq]
  have hl := lv_entry [Value.ref b] hle
  generalize (lg_sl ([Value.ref b] : List Value) ++ List.replicate (4 - (lg_sl ([Value.ref b] : List Value)).length) Slot.unset).toArray = real at hl ⊢
  have hLL : am_L s.heap.size sv real 4 [.retAddr 2, .null, .null, .null] := by
    refine ⟨hl.1, hl.2.1, Nat.le_refl _, fun i v hi hv => ?_⟩
    match i, hi with
    | 0, hi =>
      cases hi
      have e1 : am_v s.heap.size sv (.retAddr 2) = .ref b := by simp only [am_v, hsv, va_rf]
      rw [e1]
      exact hl.2.2 (0, .ref b) List.mem_cons_self
    | 1, hi => cases hi; exact absurd rfl hv
    | 2, hi => cases hi; exact absurd rfl hv
    | 3, hi => cases hi; exact absurd rfl hv
    | i + 4, hi => simp at hi
  have K := am_sim (l := l) (D := D) (cid := cid) (b0 := s.heap.size) (sv := sv) am_all am_ML_ok f (am_G 362) (am_all 362) (e := e) (below := below) (Q := lw_Z below #[Value.ref b] s) (n0 := 0) (t0 := 0) C 0 [.retAddr 2, .null, .null, .null] [] am_S0 (some (.int 1)) S' hrun ⟨by show S'.1.1 - 0 ≤ 600000; omega, by show S'.1.2 - 0 ≤ 7302250; omega⟩ (fun i' ls' pc' q2 hp2 h71 h74 hst2 _ _ pc3 q3 H3 locs3 real3 hp3 hP3 hS3 _ => by
    rw [hp2] at hp3
    cases hp3
    have hck := (am_all 362).1 _ _ _ hp2
    have hd : decode code pc' = .ok (.ireturn, 1) := by
      unfold am_step at hst2
      unfold am_ck at hck
      rw [if_neg (by omega : ¬ q2.1 = 0)] at hst2 hck
      rw [if_neg (by omega : ¬ q2.1 = 1)] at hst2 hck
      rw [if_neg (by omega : ¬ q2.1 = 2)] at hst2 hck
      rw [if_neg (by omega : ¬ q2.1 = 3)] at hst2 hck
      rw [if_neg (by omega : ¬ q2.1 = 4)] at hst2 hck
      rw [if_neg (by omega : ¬ q2.1 = 5)] at hst2 hck
      rw [if_neg (by omega : ¬ q2.1 = 6)] at hst2 hck
      rw [if_neg (by omega : ¬ q2.1 = 7)] at hst2 hck
      rw [if_neg (by omega : ¬ q2.1 = 8)] at hst2 hck
      rw [if_neg (by omega : ¬ q2.1 = 9)] at hst2 hck
      rw [if_neg (by omega : ¬ q2.1 = 10)] at hst2 hck
      rw [if_neg (by omega : ¬ q2.1 = 11)] at hst2 hck
      rw [if_neg (by omega : ¬ q2.1 = 12)] at hst2 hck
      rw [if_neg (by omega : ¬ q2.1 = 13)] at hst2 hck
      rw [if_neg (by omega : ¬ q2.1 = 14)] at hst2 hck
      rw [if_neg (by omega : ¬ q2.1 = 15)] at hst2 hck
      rw [if_neg (by omega : ¬ q2.1 = 16)] at hst2 hck
      rw [if_neg (by omega : ¬ q2.1 = 17)] at hst2 hck
      rw [if_neg (by omega : ¬ q2.1 = 18)] at hst2 hck
      rw [if_neg (by omega : ¬ q2.1 = 19)] at hst2 hck
      rw [if_neg (by omega : ¬ q2.1 = 20)] at hst2 hck
      rw [if_neg (by omega : ¬ q2.1 = 21)] at hst2 hck
      rw [if_neg (by omega : ¬ q2.1 = 22)] at hst2 hck
      rw [if_neg (by omega : ¬ q2.1 = 23)] at hst2 hck
      rw [if_neg (by omega : ¬ q2.1 = 24)] at hst2 hck
      rw [if_neg (by omega : ¬ q2.1 = 25)] at hst2 hck
      rw [if_neg (by omega : ¬ q2.1 = 26)] at hst2 hck
      rw [if_neg (by omega : ¬ q2.1 = 27)] at hst2 hck
      rw [if_neg (by omega : ¬ q2.1 = 28)] at hst2 hck
      rw [if_neg (by omega : ¬ q2.1 = 29)] at hst2 hck
      rw [if_neg (by omega : ¬ q2.1 = 30)] at hst2 hck
      rw [if_neg (by omega : ¬ q2.1 = 31)] at hst2 hck
      rw [if_neg (by omega : ¬ q2.1 = 32)] at hst2 hck
      rw [if_neg (by omega : ¬ q2.1 = 33)] at hst2 hck
      rw [if_neg (by omega : ¬ q2.1 = 34)] at hst2 hck
      rw [if_neg (by omega : ¬ q2.1 = 35)] at hst2 hck
      rw [if_neg (by omega : ¬ q2.1 = 36)] at hst2 hck
      rw [if_neg (by omega : ¬ q2.1 = 37)] at hst2 hck
      rw [if_neg (by omega : ¬ q2.1 = 38)] at hst2 hck
      rw [if_neg (by omega : ¬ q2.1 = 39)] at hst2 hck
      rw [if_neg (by omega : ¬ q2.1 = 40)] at hst2 hck
      rw [if_neg (by omega : ¬ q2.1 = 41)] at hst2 hck
      rw [if_neg (by omega : ¬ q2.1 = 42)] at hst2 hck
      rw [if_neg (by omega : ¬ q2.1 = 43)] at hst2 hck
      rw [if_neg (by omega : ¬ q2.1 = 44)] at hst2 hck
      rw [if_neg (by omega : ¬ q2.1 = 45)] at hst2 hck
      rw [if_neg (by omega : ¬ q2.1 = 46)] at hst2 hck
      rw [if_neg (by omega : ¬ q2.1 = 47)] at hst2 hck
      rw [if_neg (by omega : ¬ q2.1 = 48)] at hst2 hck
      rw [if_neg (by omega : ¬ q2.1 = 49)] at hst2 hck
      rw [if_neg (by omega : ¬ q2.1 = 50)] at hst2 hck
      rw [if_neg (by omega : ¬ q2.1 = 51)] at hst2 hck
      rw [if_neg (by omega : ¬ q2.1 = 52)] at hst2 hck
      rw [if_neg (by omega : ¬ q2.1 = 53)] at hst2 hck
      rw [if_neg (by omega : ¬ q2.1 = 54)] at hst2 hck
      rw [if_neg (by omega : ¬ q2.1 = 55)] at hst2 hck
      rw [if_neg (by omega : ¬ q2.1 = 56)] at hst2 hck
      rw [if_neg (by omega : ¬ q2.1 = 57)] at hst2 hck
      rw [if_neg (by omega : ¬ q2.1 = 58)] at hst2 hck
      rw [if_neg (by omega : ¬ q2.1 = 60)] at hst2 hck
      rw [if_neg (by omega : ¬ q2.1 = 61)] at hst2 hck
      rw [if_neg (by omega : ¬ q2.1 = 62)] at hst2 hck
      rw [if_neg (by omega : ¬ q2.1 = 63)] at hst2 hck
      rw [if_neg (by omega : ¬ q2.1 = 64)] at hst2 hck
      rw [if_neg (by omega : ¬ q2.1 = 65)] at hst2 hck
      rw [if_neg (by omega : ¬ q2.1 = 66)] at hst2 hck
      rw [if_neg (by omega : ¬ q2.1 = 67)] at hst2 hck
      rw [if_neg (by omega : ¬ q2.1 = 68)] at hst2 hck
      rw [if_neg (by omega : ¬ q2.1 = 69)] at hst2 hck
      rw [if_neg (by omega : ¬ q2.1 = 70)] at hst2 hck
      by_cases h71' : q2.1 = 71
      · rw [if_pos h71'] at hck
        simp only [am_c_iret, Bool.and_eq_true, am_de_iff] at hck
        rw [← g1]
        exact hck.1
      · rw [if_neg h71'] at hst2
        by_cases h72 : q2.1 = 72
        · rw [if_pos h72] at hst2
          simp [am_x_lret] at hst2
        · rw [if_neg h72] at hst2
          by_cases h73 : q2.1 = 73
          · rw [if_pos h73] at hst2
            simp [am_x_aret] at hst2
          · rw [if_neg h73, if_pos (by omega)] at hst2
            simp [am_x_vret] at hst2
    refine va_forget (fun q hq => hS3.2.2 q hq) ?_
    refine W.widen (k := 600000) (n := 7302250) (by omega) (by omega) ?_
    exact lw_ret hx hb hr hlocks hd)
  obtain ⟨q0, hq0⟩ : ∃ q0, (am_G 362).2.2.2.2.1[0]? = some (0, q0) := ⟨_, rfl⟩
  have K2 := K (Nat.le_refl _) (Nat.le_refl _) 0 q0 s.heap [] real hq0 hP0 va_S.rf (by rw [g2]; exact hLL)
  exact K2
