section AMT
variable {G : Nat → am_M} {X : am_X} {p : Program} {l : Launch} {e : Env} {R : Room} {s : State} {mid : MethodId} {args : Array Value} {below : List Frame} {meth : Method} {c : Code} {Q : State → Prop} {D : va_G} {cid : Nat → ClassId} {b0 n0 t0 : Nat} {sv : Nat → Option Nat} {on : Nat} {mn : String} {cc : ByteArray} {rt : Option FieldType} {fr lo nL : Nat} {P : List (Nat × am_I)} {i j pc : Nat} {q : am_I} {ls st ls' st' : List Value} {S S' : am_S}
theorem am_sz {H : Heap} {locs : List Loc} {sl : Nat} {g : JFrame} (hn : n0 ≤ S.1.1) (hz : s.heap.size = b0 + n0) (hP : va_P D vwCl (am_ws b0 cid S) H) (hS : va_S (am_A b0) s.heap H locs) (kk : H.size = b0 + S.1.1 → W p l e R s mid args below meth c H locs (S.1.1 - n0) sl Q g) : W p l e R s mid args below meth c H locs (S.1.1 - n0) sl Q g := by
  intro T hT Xs
  have h1 : T.heap.size ≤ s.heap.size + (S.1.1 - n0) := Xs.same.2.2.1
  rw [hT] at h1
  have h2 : b0 + S.1.1 ≤ H.size := by
    rcases Nat.lt_or_ge n0 S.1.1 with h | h
    · have h3 := (hP _ _ (am_ws_at (b0 := b0) (cid := cid) (S := S) (a := S.1.1 - 1) (by omega))).lt
      have h4 : b0 + (S.1.1 - 1) < H.size := h3
      omega
    · have := hS.1
      omega
  exact kk (by omega) T hT Xs
theorem am_push {H H1 : Heap} (hP : va_P D vwCl (am_ws b0 cid S) H) (hq : ∀ x, x < H.size → H1[x]? = H[x]?) (hn : S'.1.1 = S.1.1 + 1) (ho : ∀ k, k < S.1.1 → am_e b0 cid S' k = am_e b0 cid S k) (hnew : va_at D vwCl (b0 + S.1.1, am_e b0 cid S' S.1.1) H1) : va_P D vwCl (am_ws b0 cid S') H1 := by
  intro k x hk
  obtain ⟨hl, rfl⟩ := am_ws_of hk
  rcases Nat.lt_or_ge k S.1.1 with h | h
  · rw [ho k h]
    have h1 := hP k _ (am_ws_at h)
    exact h1.kept (hq _ h1.lt)
  · have : k = S.1.1 := by omega
    subst this
    exact hnew
theorem am_e_mk {t n k : Nat} (h : k < S.1.1) : am_e b0 cid (am_mk S t n) k = am_e b0 cid S k := by
  have hk : k ≠ S.1.1 := by omega
  refine am_e_ne ?_ ?_ ?_ ?_
  · simp [am_mk, hk]
  · funext z
    simp [am_mk, am_cl, hk]
  · funext z
    simp [am_mk, am_cl, hk]
  · funext z
    simp [am_mk, am_cl, hk]
theorem am_S_push {H H1 : Heap} {locs : List Loc} {H0 : Heap} (hS : va_S (am_A b0) H0 H locs) (hz : H.size ≤ H1.size) (hq : ∀ x, x < H.size → H1[x]? = H[x]?) : va_S (am_A b0) H0 H1 locs :=
  ⟨Nat.le_trans hS.1 hz, fun x h1 h2 => (hq x (Nat.lt_of_lt_of_le h1 hS.1)).trans (hS.2.1 x h1 h2), hS.2.2⟩

set_option maxHeartbeats 1000000 in
theorem am_s_gets (C : am_Cx X p R s mid args meth c D cid b0 n0 sv (am_rn on) mn cc fr lo nL) (hp : P[i]? = some (pc, q)) (hck : am_c_gets G on mn cc rt fr lo P i pc q = true) (hst : am_x_gets X q i ls st S = some (.inl (j, ls', st', S'))) (kk : am_At p l e R s mid args below meth c Q D cid b0 n0 t0 sv nL P j ls' st' S') : am_At p l e R s mid args below meth c Q D cid b0 n0 t0 sv nL P i ls st S := by
  intro hn ht pc2 q2 H locs real hp2 hP hS hL
  obtain ⟨rfl, rfl⟩ : pc = pc2 ∧ q = q2 := by
    rw [hp] at hp2
    cases hp2
    exact ⟨rfl, rfl⟩
  obtain ⟨hx, hb, hml, hlk, hmn, hown, hts, hK, hO, hb0, hfr, hlo⟩ := C
  simp only [am_c_gets, Bool.and_eq_true, decide_eq_true_eq, am_de_iff] at hck
  obtain ⟨⟨hd, hnx⟩, hw⟩ := hck
  obtain ⟨q', hq'⟩ := am_nx_of hnx
  unfold am_x_gets at hst
  simp only [am_go, Option.some.injEq, Sum.inl.injEq, Prod.mk.injEq] at hst
  obtain ⟨rfl, rfl, rfl, rfl⟩ := hst
  have K := kk hn ht _ _ H locs real hq' hP hS hL
  have hl := hts _ (am_has_mem hw)
  generalize q.2.2.1 = bb at K hl
  rcases bb with _ | _ | bb
  · obtain ⟨oa, hsv, hZ, -⟩ := hO.1
    simp only [List.map_cons, am_v, if_true, hsv] at K
    exact va_gets hx hb hZ hS hown hl (fun _ h9 => h9) hd K
  · simp only [List.map_cons, am_v] at K
    exact va_gets hx hb hO.2.1 hS hown hl (fun _ h9 => h9) hd K
  · have e1 : ¬ bb + 1 + 1 = 0 := by omega
    have e2 : ¬ bb + 1 + 1 = 1 := by omega
    simp only [List.map_cons, am_v, e1, e2, if_false] at K
    exact va_gets hx hb hO.2.2.1 hS hown hl (fun _ h9 => h9) hd K

set_option maxHeartbeats 1000000 in
theorem am_s_gets_of_text (C : am_Cx X p R s mid args meth c D cid b0 n0 sv (am_rn on) mn cc fr lo nL) (hp : P[i]? = some (pc, q)) (hck : am_c_gets_of_text G on mn cc rt fr lo P i pc q = true) (hst : am_x_gets_of_text X q i ls st S = some (.inl (j, ls', st', S'))) (kk : am_At p l e R s mid args below meth c Q D cid b0 n0 t0 sv nL P j ls' st' S') : am_At p l e R s mid args below meth c Q D cid b0 n0 t0 sv nL P i ls st S := by
  intro hn ht pc2 q2 H locs real hp2 hP hS hL
  obtain ⟨rfl, rfl⟩ : pc = pc2 ∧ q = q2 := by
    rw [hp] at hp2
    cases hp2
    exact ⟨rfl, rfl⟩
  obtain ⟨hx, hb, hml, hlk, hmn, hown, hts, hK, hO, hb0, hfr, hlo⟩ := C
  simp only [am_c_gets_of_text, Bool.and_eq_true, decide_eq_true_eq, am_de_iff] at hck
  obtain ⟨⟨hd, hnx⟩, hw⟩ := hck
  obtain ⟨q', hq'⟩ := am_nx_of hnx
  unfold am_x_gets_of_text at hst
  split at hst
  · split at hst
    · rename_i hc
      simp only [am_go, Option.some.injEq, Sum.inl.injEq, Prod.mk.injEq] at hst
      obtain ⟨rfl, rfl, rfl, rfl⟩ := hst
      subst hc
      have K := kk hn ht _ _ H locs real hq' hP hS hL
      have hl := hts _ (am_has_mem hw)
      obtain ⟨ka, kv, hs1, hs3, -, -, hco, hva, -⟩ := hO.2.2.2.1
      simp only [List.map_cons, am_v, hs1]
      by_cases hbb : q.2.2.1 = 0
      · simp only [hbb, if_true, List.map_cons, am_v] at K hl
        exact vk_getf hx hb hco hS hown hl (fun _ h9 => h9) hd K
      · simp only [hbb, if_false, List.map_cons, am_v, hs3] at K hl
        exact vk_getf hx hb hva hS hown hl (fun _ h9 => h9) hd K
    · cases hst
  · cases hst

set_option maxHeartbeats 1000000 in
theorem am_s_ldcs (C : am_Cx X p R s mid args meth c D cid b0 n0 sv (am_rn on) mn cc fr lo nL) (hp : P[i]? = some (pc, q)) (hck : am_c_ldcs G on mn cc rt fr lo P i pc q = true) (hst : am_x_ldcs X q i ls st S = some (.inl (j, ls', st', S'))) (kk : am_At p l e R s mid args below meth c Q D cid b0 n0 t0 sv nL P j ls' st' S') : am_At p l e R s mid args below meth c Q D cid b0 n0 t0 sv nL P i ls st S := by
  intro hn ht pc2 q2 H locs real hp2 hP hS hL
  obtain ⟨rfl, rfl⟩ : pc = pc2 ∧ q = q2 := by
    rw [hp] at hp2
    cases hp2
    exact ⟨rfl, rfl⟩
  obtain ⟨hx, hb, hml, hlk, hmn, hown, hts, hK, hO, hb0, hfr, hlo⟩ := C
  simp only [am_c_ldcs, Bool.and_eq_true, decide_eq_true_eq, am_de_iff] at hck
  obtain ⟨⟨hd, hnx⟩, hw⟩ := hck
  obtain ⟨q', hq'⟩ := am_nx_of hnx
  unfold am_x_ldcs at hst
  simp only [am_go, Option.some.injEq, Sum.inl.injEq, Prod.mk.injEq] at hst
  obtain ⟨rfl, rfl, rfl, rfl⟩ := hst
  have K := kk hn ht _ _ H locs real hq' hP hS hL
  have hw2 : am_rn on = "PassScreener$SkyReader" := by simpa using hw
  obtain ⟨ka, kv, hs1, hs3, hR, -⟩ := hO.2.2.2.1
  simp only [List.map_cons, am_v, hs1] at K
  rw [hw2] at hown
  exact va_ldcS hx hb hown hR hd K

theorem am_cats {r : List Value} : ((r.map (am_v b0 sv)).map fun v => v.category).sum = (r.map Value.category).sum := by
  rw [List.map_map]
  congr 1
  apply List.map_congr_left
  intro x _
  exact am_v_cat

set_option maxHeartbeats 1000000 in
theorem am_s_oini (C : am_Cx X p R s mid args meth c D cid b0 n0 sv (am_rn on) mn cc fr lo nL) (hp : P[i]? = some (pc, q)) (hck : am_c_oini G on mn cc rt fr lo P i pc q = true) (hst : am_x_oini X q i ls st S = some (.inl (j, ls', st', S'))) (kk : am_At p l e R s mid args below meth c Q D cid b0 n0 t0 sv nL P j ls' st' S') : am_At p l e R s mid args below meth c Q D cid b0 n0 t0 sv nL P i ls st S := by
  intro hn ht pc2 q2 H locs real hp2 hP hS hL
  obtain ⟨rfl, rfl⟩ : pc = pc2 ∧ q = q2 := by
    rw [hp] at hp2
    cases hp2
    exact ⟨rfl, rfl⟩
  obtain ⟨hx, hb, hml, hlk, hmn, hown, hts, hK, hO, hb0, hfr, hlo⟩ := C
  simp only [am_c_oini, Bool.and_eq_true, decide_eq_true_eq, am_de_iff] at hck
  obtain ⟨⟨⟨⟨⟨⟨hd, hnx⟩, hw0⟩, hw1⟩, hw2⟩, hf1⟩, hf2⟩ := hck
  obtain ⟨q', hq'⟩ := am_nx_of hnx
  unfold am_x_oini at hst
  split at hst
  · rename_i a r
    split at hst
    · rename_i hc
      simp only [am_go, Option.some.injEq, Sum.inl.injEq, Prod.mk.injEq] at hst
      obtain ⟨rfl, rfl, rfl, rfl⟩ := hst
      have K := kk hn ht _ _ H locs real hq' hP hS hL
      simp only [List.map_cons, am_v]
      have hcat : ((r.map (am_v b0 sv)).map fun v => v.category).sum ≤ 8 := by
        rw [am_cats]
        exact hc
      refine W.objInit hx hb hown (hts _ (am_has_mem hw0)) (hts _ (am_has_mem hw1)) (hts _ (am_has_mem hw2)) rfl (by rw [hml]; exact hL.1) rfl hd (by omega) ?_ K
      have e0 : 2 * (F0 mid pc real (Value.ref (b0 + a) :: r.map (am_v b0 sv))).monitorRoom + ((r.map (am_v b0 sv)).map fun v => v.category).sum ≤ 8 := lv_room hcat
      omega
    · cases hst
  · cases hst

set_option maxHeartbeats 1000000 in
theorem am_s_new (C : am_Cx X p R s mid args meth c D cid b0 n0 sv (am_rn on) mn cc fr lo nL) (hp : P[i]? = some (pc, q)) (hck : am_c_new G on mn cc rt fr lo P i pc q = true) (hst : am_x_new X q i ls st S = some (.inl (j, ls', st', S'))) (hrm : S'.1.1 - n0 ≤ R.cells ∧ S'.1.2 - t0 ≤ R.slots) (kk : am_At p l e R s mid args below meth c Q D cid b0 n0 t0 sv nL P j ls' st' S') : am_At p l e R s mid args below meth c Q D cid b0 n0 t0 sv nL P i ls st S := by
  intro hn ht pc2 q2 H locs real hp2 hP hS hL
  obtain ⟨rfl, rfl⟩ : pc = pc2 ∧ q = q2 := by
    rw [hp] at hp2
    cases hp2
    exact ⟨rfl, rfl⟩
  obtain ⟨hx, hb, hml, hlk, hmn, hown, hts, hK, hO, hb0, hfr, hlo⟩ := C
  simp only [am_c_new, Bool.and_eq_true, decide_eq_true_eq, am_de_iff] at hck
  obtain ⟨⟨⟨⟨⟨⟨hd, hnx⟩, hci⟩, hw0⟩, hw1⟩, hw2⟩, hall⟩ := hck
  obtain ⟨q', hq'⟩ := am_nx_of hnx
  unfold am_x_new at hst
  simp only [am_go, Option.some.injEq, Sum.inl.injEq, Prod.mk.injEq] at hst
  obtain ⟨rfl, rfl, rfl, rfl⟩ := hst
  have hrm1 : S.1.1 + 1 - n0 ≤ R.cells := hrm.1
  have hrm2 : S.1.2 + am_nf q.2.1 - t0 ≤ R.slots := hrm.2
  refine am_sz hn hb0 hP hS (fun hz => ?_)
  have hKn := hK.1 q.2.1 _ (am_clw hci)
  refine W.newcK hx hb hown (hts _ (am_has_mem hw0)) (hts _ (am_has_mem hw1)) (hts _ (am_has_mem hw2)) rfl hd (by omega) (by omega) hKn.2.1 hz fun H1 kC hkC e1 z1 o1 => ?_
  have e1c : S.1.1 - n0 + 1 = S.1.1 + 1 - n0 := by omega
  have e2c : S.1.2 - t0 + am_nf q.2.1 = S.1.2 + am_nf q.2.1 - t0 := by omega
  rw [e1c, e2c]
  refine kk (by show n0 ≤ S.1.1 + 1; omega) (by show t0 ≤ S.1.2 + am_nf q.2.1; omega) _ _ H1 locs real hq' ?_ (am_S_push hS (by omega) (fun x hx2 => o1 x (by omega))) hL
  refine am_push hP (fun x hx2 => o1 x (by omega)) rfl (fun k hk => am_e_mk hk) ?_
  have hkk : ((am_mk S q.2.1 (am_nf q.2.1)).2.1 S.1.1) = (q.2.1, am_nf q.2.1) := by simp [am_mk]
  rw [am_e_kO (by rw [hkk]; exact hci), hkk]
  refine ⟨_, am_clw hci, (u_born (am_ft q.2.1) hts (am_inw hci) hKn hkC e1 (am_tyw hci)).to (fun j hj => ?_)⟩
  unfold vp_V
  rw [List.getD_eq_getElem?_getD, am_fs_at hj]
  have hj2 := List.all_eq_true.mp hall j (List.mem_range.mpr hj)
  have e3 : (am_mk S q.2.1 (am_nf q.2.1)).2.2.1 S.1.1 j = 0 := by simp [am_mk, am_cl]
  have e4 : (am_mk S q.2.1 (am_nf q.2.1)).2.2.2.2 S.1.1 j = none := by simp [am_mk, am_cl]
  rw [e3, e4]
  cases hf : am_ft q.2.1 j <;> rw [hf] at hj2 <;> first | rfl | (simp [am_rt] at hj2)

set_option maxHeartbeats 1000000 in
theorem am_s_newa (C : am_Cx X p R s mid args meth c D cid b0 n0 sv (am_rn on) mn cc fr lo nL) (hp : P[i]? = some (pc, q)) (hck : am_c_newa G on mn cc rt fr lo P i pc q = true) (hst : am_x_newa X q i ls st S = some (.inl (j, ls', st', S'))) (hrm : S'.1.1 - n0 ≤ R.cells ∧ S'.1.2 - t0 ≤ R.slots) (kk : am_At p l e R s mid args below meth c Q D cid b0 n0 t0 sv nL P j ls' st' S') : am_At p l e R s mid args below meth c Q D cid b0 n0 t0 sv nL P i ls st S := by
  intro hn ht pc2 q2 H locs real hp2 hP hS hL
  obtain ⟨rfl, rfl⟩ : pc = pc2 ∧ q = q2 := by
    rw [hp] at hp2
    cases hp2
    exact ⟨rfl, rfl⟩
  obtain ⟨hx, hb, hml, hlk, hmn, hown, hts, hK, hO, hb0, hfr, hlo⟩ := C
  simp only [am_c_newa, Bool.and_eq_true, decide_eq_true_eq, am_de_iff] at hck
  obtain ⟨⟨⟨⟨hd, hnx⟩, hk1⟩, hk2⟩, hw0⟩ := hck
  obtain ⟨q', hq'⟩ := am_nx_of hnx
  unfold am_x_newa at hst
  split at hst
  · rename_i n r
    split at hst
    · rename_i hc
      obtain ⟨hn0, hn1⟩ := hc
      simp only [am_go, Option.some.injEq, Sum.inl.injEq, Prod.mk.injEq] at hst
      obtain ⟨rfl, rfl, rfl, rfl⟩ := hst
      have hrm1 : S.1.1 + 1 - n0 ≤ R.cells := hrm.1
      have hrm2 : S.1.2 + n.toNatClampNeg - t0 ≤ R.slots := hrm.2
      refine am_sz hn hb0 hP hS (fun hz => ?_)
      simp only [List.map_cons, am_v]
      have hcb : n.toNatClampNeg * componentBytes (newarray.typeOf (am_at q.2.1)) ≤ 536870912 := by
        have : componentBytes (newarray.typeOf (am_at q.2.1)) ≤ 8 := by
          unfold am_at
          split <;> decide
        calc n.toNatClampNeg * componentBytes (newarray.typeOf (am_at q.2.1)) ≤ 10000 * 8 := Nat.mul_le_mul hn1 this
          _ ≤ 536870912 := by decide
      refine va_newaK hx hb (hts _ (am_has_mem hw0)) rfl hd rfl hn0 rfl hcb (by omega) (by omega) hz fun H1 cA e1 z1 o1 hAr hNm => ?_
      have e1c : S.1.1 - n0 + 1 = S.1.1 + 1 - n0 := by omega
      have e2c : S.1.2 - t0 + n.toNatClampNeg = S.1.2 + n.toNatClampNeg - t0 := by omega
      rw [e1c, e2c]
      refine kk (by show n0 ≤ S.1.1 + 1; omega) (by show t0 ≤ S.1.2 + n.toNatClampNeg; omega) _ _ H1 locs real hq' ?_ (am_S_push hS (by omega) (fun x hx2 => o1 x (by omega))) hL
      refine am_push hP (fun x hx2 => o1 x (by omega)) rfl (fun k hk => am_e_mk hk) ?_
      have hkk : ((am_mk S q.2.1 n.toNatClampNeg).2.1 S.1.1) = (q.2.1, n.toNatClampNeg) := by simp [am_mk]
      have h3 : q.2.1 = 20 ∨ q.2.1 = 21 ∨ q.2.1 = 22 := by omega
      rcases h3 with h | h | h
      · have hcA : cA = cid 20 := by
          have h1 := (hK.2 0 _ rfl).2
          rw [h] at hNm
          exact Option.some.inj (hNm.symm.trans h1)
        subst hcA
        rw [am_e_kI (Or.inl (by rw [hkk]; exact h)), hkk, h]
        rw [h] at e1
        show H1[b0 + S.1.1]? = some (vp_cell _ _)
        rw [vp_cell_i, e1]
        congr 2
        funext j
        simp [am_mk, am_cl, am_at, newarray.typeOf, defaultValue]
      · have hcA : cA = cid 21 := by
          have h1 := (hK.2 1 _ rfl).2
          rw [h] at hNm
          exact Option.some.inj (hNm.symm.trans h1)
        subst hcA
        rw [am_e_kI (Or.inr (by rw [hkk]; exact h)), hkk, h]
        rw [h] at e1
        show H1[b0 + S.1.1]? = some (vp_cell _ _)
        rw [vp_cell_i, e1]
        congr 2
        funext j
        simp [am_mk, am_cl, am_at, newarray.typeOf, defaultValue]
      · have hcA : cA = cid 22 := by
          have h1 := (hK.2 2 _ rfl).2
          rw [h] at hNm
          exact Option.some.inj (hNm.symm.trans h1)
        subst hcA
        rw [am_e_kJ (by rw [hkk]; exact h), hkk]
        rw [h] at e1
        show H1[b0 + S.1.1]? = some (vp_cell _ _)
        rw [vp_cell_l, e1]
        congr 2
        funext j
        simp [am_mk, am_cl, am_at, newarray.typeOf, defaultValue]
    · cases hst
  · cases hst

set_option maxHeartbeats 1000000 in
theorem am_s_anew (C : am_Cx X p R s mid args meth c D cid b0 n0 sv (am_rn on) mn cc fr lo nL) (hp : P[i]? = some (pc, q)) (hck : am_c_anew G on mn cc rt fr lo P i pc q = true) (hst : am_x_anew X q i ls st S = some (.inl (j, ls', st', S'))) (hrm : S'.1.1 - n0 ≤ R.cells ∧ S'.1.2 - t0 ≤ R.slots) (kk : am_At p l e R s mid args below meth c Q D cid b0 n0 t0 sv nL P j ls' st' S') : am_At p l e R s mid args below meth c Q D cid b0 n0 t0 sv nL P i ls st S := by
  intro hn ht pc2 q2 H locs real hp2 hP hS hL
  obtain ⟨rfl, rfl⟩ : pc = pc2 ∧ q = q2 := by
    rw [hp] at hp2
    cases hp2
    exact ⟨rfl, rfl⟩
  obtain ⟨hx, hb, hml, hlk, hmn, hown, hts, hK, hO, hb0, hfr, hlo⟩ := C
  simp only [am_c_anew, Bool.and_eq_true, decide_eq_true_eq, am_de_iff] at hck
  obtain ⟨⟨hd, hnx⟩, hw0⟩ := hck
  obtain ⟨q', hq'⟩ := am_nx_of hnx
  unfold am_x_anew at hst
  split at hst
  · rename_i n r
    split at hst
    · rename_i hc
      obtain ⟨hn0, hn1⟩ := hc
      simp only [am_go, Option.some.injEq, Sum.inl.injEq, Prod.mk.injEq] at hst
      obtain ⟨rfl, rfl, rfl, rfl⟩ := hst
      have hrm1 : S.1.1 + 1 - n0 ≤ R.cells := hrm.1
      have hrm2 : S.1.2 + n.toNatClampNeg - t0 ≤ R.slots := hrm.2
      refine am_sz hn hb0 hP hS (fun hz => ?_)
      simp only [List.map_cons, am_v]
      refine W.anew hx hb hown (hts _ (am_has_mem hw0)) (va_AO.use hO.2.2.2.2.2.2.1) rfl hd rfl hn0 (by omega) (by omega) (by omega) fun cA kA comp f1 f2 f3 f4 => ?_
      generalize hH1 : H.push ({ cls := cA, slots := Array.replicate n.toNatClampNeg .null, vm := .none } : Cell) = H1
      have z1 : H1.size = H.size + 1 := by rw [← hH1, Array.size_push]
      have e1 : H1[H.size]? = some (arrV cA n.toNatClampNeg (fun _ => .null)) := by rw [← hH1, Array.getElem?_push_size, ← arrV_new]
      have o1 : ∀ x : Nat, x < H.size → H1[x]? = H[x]? := fun x hx2 => by rw [← hH1, Array.getElem?_push, if_neg (Nat.ne_of_lt hx2)]
      have e1c : S.1.1 - n0 + 1 = S.1.1 + 1 - n0 := by omega
      have e2c : S.1.2 - t0 + n.toNatClampNeg = S.1.2 + n.toNatClampNeg - t0 := by omega
      rw [e1c, e2c, hz]
      refine kk (by show n0 ≤ S.1.1 + 1; omega) (by show t0 ≤ S.1.2 + n.toNatClampNeg; omega) _ _ H1 locs real hq' ?_ (am_S_push hS (by omega) o1) hL
      refine am_push hP o1 rfl (fun k hk => am_e_mk hk) ?_
      have hkk : ((am_mk S 23 n.toNatClampNeg).2.1 S.1.1) = (23, n.toNatClampNeg) := by simp [am_mk]
      have hcA : cA = cid 23 := by
        obtain ⟨_, _, _, _, _, h1⟩ := (hK.2 3 _ rfl).2
        exact Option.some.inj (f1.symm.trans h1)
      subst hcA
      rw [am_e_kR (Or.inl (by rw [hkk])), hkk]
      show H1[b0 + S.1.1]? = some (vp_cell _ _)
      rw [vp_cell_q, ← hz, e1]
      congr 2
      funext j
      simp [am_mk, am_cl, am_mp, va_rf]
    · cases hst
  · cases hst

set_option maxHeartbeats 1000000 in
theorem am_s_mnew (C : am_Cx X p R s mid args meth c D cid b0 n0 sv (am_rn on) mn cc fr lo nL) (hp : P[i]? = some (pc, q)) (hck : am_c_mnew G on mn cc rt fr lo P i pc q = true) (hst : am_x_mnew X q i ls st S = some (.inl (j, ls', st', S'))) (hrm : S'.1.1 - n0 ≤ R.cells ∧ S'.1.2 - t0 ≤ R.slots) (kk : am_At p l e R s mid args below meth c Q D cid b0 n0 t0 sv nL P j ls' st' S') : am_At p l e R s mid args below meth c Q D cid b0 n0 t0 sv nL P i ls st S := by
  intro hn ht pc2 q2 H locs real hp2 hP hS hL
  obtain ⟨rfl, rfl⟩ : pc = pc2 ∧ q = q2 := by
    rw [hp] at hp2
    cases hp2
    exact ⟨rfl, rfl⟩
  obtain ⟨hx, hb, hml, hlk, hmn, hown, hts, hK, hO, hb0, hfr, hlo⟩ := C
  simp only [am_c_mnew, Bool.and_eq_true, decide_eq_true_eq, am_de_iff] at hck
  obtain ⟨⟨⟨hd, hnx⟩, hw0⟩, hw1⟩ := hck
  obtain ⟨q', hq'⟩ := am_nx_of hnx
  unfold am_x_mnew at hst
  split at hst
  · rename_i k n r
    split at hst
    · rename_i hc
      obtain ⟨hn0, hk0, hn1, hk1⟩ := hc
      simp only [am_go, Option.some.injEq, Sum.inl.injEq, Prod.mk.injEq] at hst
      obtain ⟨rfl, rfl, rfl, rfl⟩ := hst
      have hrm1 : S.1.1 + 1 + n.toNatClampNeg - n0 ≤ R.cells := hrm.1
      have hrm2 : S.1.2 + n.toNatClampNeg + n.toNatClampNeg * k.toNatClampNeg - t0 ≤ R.slots := hrm.2
      refine am_sz hn hb0 hP hS (fun hz => ?_)
      simp only [List.map_cons, am_v]
      intro T hT Xs
      obtain ⟨vm1, cA, comp, -, fA, fC, hOo, -, X', step⟩ := Xs.multianewarray2F hx hown (ty := .int) (hts _ (am_has_mem hw0)) (show (Cond.arrayOver (.array .int)).before args s = true from hO.2.2.2.2.2.2.2) (hts _ (am_has_mem hw1)) (g := F0 mid pc real (.int k :: .int n :: r.map (am_v b0 sv))) rfl (by rw [hb]; exact hd) rfl hn0 hk0 (by omega) (by show k.toNatClampNeg * 4 ≤ 536870912; omega) (by omega) rfl rfl (by omega) (by generalize n.toNatClampNeg * k.toNatClampNeg = nk at *; omega)
      generalize hF : Jvm.Free.Multi.fill (T.setVm vm1) cA comp n.toNatClampNeg k.toNatClampNeg (defaultValue .int) n.toNatClampNeg = F at X' step
      have hTh : (T.setVm vm1).heap = H := hT
      obtain ⟨f1, f2, -, -⟩ := Jvm.Free.Multi.fill_facts (T.setVm vm1) cA comp n.toNatClampNeg k.toNatClampNeg (defaultValue .int) n.toNatClampNeg
      rw [hF, hTh] at f1 f2
      have hold : ∀ x : Nat, x < H.size → F.heap[x]? = H[x]? := fun x hx2 => by
        have := Jvm.Free.Multi.fill_old (T.setVm vm1) cA comp n.toNatClampNeg k.toNatClampNeg (defaultValue .int) (a := x) (by rw [hTh]; exact hx2) n.toNatClampNeg
        rw [hF, hTh] at this
        exact this
      have hrow : ∀ j : Nat, j < n.toNatClampNeg → F.heap[H.size + 1 + j]? = some (Jvm.Free.Multi.innerC comp k.toNatClampNeg (defaultValue .int)) := fun j hj => by
        have := Jvm.Free.Multi.fill_inner (T.setVm vm1) cA comp n.toNatClampNeg k.toNatClampNeg (defaultValue .int) n.toNatClampNeg j hj
        rw [hF, hTh] at this
        exact this
      have hcA : cA = cid 24 := by
        have h1 := (hK.2 4 _ rfl).2
        exact Option.some.inj (fA.symm.trans h1)
      have hcI : comp = cid 20 := by
        have h1 := (hK.2 0 _ rfl).2
        exact Option.some.inj (fC.symm.trans h1)
      subst hcA
      subst hcI
      have e1c : S.1.1 - n0 + 1 + n.toNatClampNeg = S.1.1 + 1 + n.toNatClampNeg - n0 := by omega
      have e2c : S.1.2 - t0 + n.toNatClampNeg + n.toNatClampNeg * k.toNatClampNeg = S.1.2 + n.toNatClampNeg + n.toNatClampNeg * k.toNatClampNeg - t0 := by generalize n.toNatClampNeg * k.toNatClampNeg = nk at *; omega
      rw [e1c, e2c] at X'
      have hPn : va_P D vwCl (am_ws b0 cid (am_mm S n.toNatClampNeg k.toNatClampNeg)) F.heap := by
        intro z x hzx
        obtain ⟨hl, rfl⟩ := am_ws_of hzx
        have hl2 : z < S.1.1 + 1 + n.toNatClampNeg := hl
        rcases Nat.lt_or_ge z S.1.1 with h | h
        · have e : am_e b0 cid (am_mm S n.toNatClampNeg k.toNatClampNeg) z = am_e b0 cid S z := by
            have a1 : ¬ z = S.1.1 := by omega
            have a2 : ¬ (S.1.1 < z ∧ z ≤ S.1.1 + n.toNatClampNeg) := by omega
            have a3 : ¬ (S.1.1 ≤ z ∧ z ≤ S.1.1 + n.toNatClampNeg) := by omega
            refine am_e_ne ?_ ?_ ?_ ?_
            · simp only [am_mm, a1, a2, if_false]
            · funext y
              simp only [am_mm, a3, if_false]
            · funext y
              simp only [am_mm, a3, if_false]
            · funext y
              simp only [am_mm, a1, a2, if_false]
          rw [e]
          have h1 := hP z _ (am_ws_at h)
          exact h1.kept (hold _ h1.lt)
        · rcases Nat.lt_or_ge S.1.1 z with h' | h'
          · have a1 : ¬ z = S.1.1 := by omega
            have a2 : S.1.1 < z ∧ z ≤ S.1.1 + n.toNatClampNeg := by omega
            have a3 : S.1.1 ≤ z ∧ z ≤ S.1.1 + n.toNatClampNeg := by omega
            have hkk : (am_mm S n.toNatClampNeg k.toNatClampNeg).2.1 z = (20, k.toNatClampNeg) := by simp [am_mm, a1, a2]
            rw [am_e_kI (Or.inl (by rw [hkk])), hkk]
            have hr := hrow (z - (S.1.1 + 1)) (by omega)
            rw [hz, show b0 + S.1.1 + 1 + (z - (S.1.1 + 1)) = b0 + z by omega] at hr
            show F.heap[b0 + z]? = some (vp_cell _ _)
            rw [vp_cell_i, hr]
            show some ({ cls := cid 20, slots := Array.replicate k.toNatClampNeg (.int 0), vm := .none } : Cell) = _
            rw [arrV_new]
            congr 2
            funext j
            simp [am_mm, a3]
          · have a1 : z = S.1.1 := by omega
            subst a1
            have hkk : (am_mm S n.toNatClampNeg k.toNatClampNeg).2.1 S.1.1 = (24, n.toNatClampNeg) := by simp [am_mm]
            rw [am_e_kR (Or.inr (by rw [hkk])), hkk]
            show F.heap[b0 + S.1.1]? = some (vp_cell _ _)
            rw [vp_cell_q, ← hz, f2, vr_outer]
            congr 2
            funext j
            by_cases hj : j < n.toNatClampNeg
            · have e9 : am_mp b0 ((am_mm S n.toNatClampNeg k.toNatClampNeg).2.2.2.2 S.1.1 j) = some (b0 + (S.1.1 + 1 + j)) := by simp [am_mm, am_mp, hj]
              rw [e9, if_pos hj, hz, show b0 + S.1.1 + 1 + j = b0 + (S.1.1 + 1 + j) by omega]
            · simp [am_mm, am_mp, va_rf, hj]
      obtain ⟨t, a1, b1⟩ := kk (by show n0 ≤ S.1.1 + 1 + n.toNatClampNeg; omega) (by show t0 ≤ S.1.2 + n.toNatClampNeg + n.toNatClampNeg * k.toNatClampNeg; generalize n.toNatClampNeg * k.toNatClampNeg = nk at *; omega) _ _ F.heap locs real hq' hPn (am_S_push hS (by omega) hold) hL F rfl X'
      refine ⟨t, step t ?_, b1⟩
      have e : T.heap.size = b0 + S.1.1 := by rw [hT]; exact hz
      rw [e]
      exact a1
    · cases hst
  · cases hst

set_option maxHeartbeats 1000000 in
theorem am_s_acpy (C : am_Cx X p R s mid args meth c D cid b0 n0 sv (am_rn on) mn cc fr lo nL) (hp : P[i]? = some (pc, q)) (hck : am_c_acpy G on mn cc rt fr lo P i pc q = true) (hst : am_x_acpy X q i ls st S = some (.inl (j, ls', st', S'))) (kk : am_At p l e R s mid args below meth c Q D cid b0 n0 t0 sv nL P j ls' st' S') : am_At p l e R s mid args below meth c Q D cid b0 n0 t0 sv nL P i ls st S := by
  intro hn ht pc2 q2 H locs real hp2 hP hS hL
  obtain ⟨rfl, rfl⟩ : pc = pc2 ∧ q = q2 := by
    rw [hp] at hp2
    cases hp2
    exact ⟨rfl, rfl⟩
  obtain ⟨hx, hb, hml, hlk, hmn, hown, hts, hK, hO, hb0, hfr, hlo⟩ := C
  simp only [am_c_acpy, Bool.and_eq_true, decide_eq_true_eq, am_de_iff] at hck
  obtain ⟨⟨⟨⟨⟨⟨⟨hd, hnx⟩, hw0⟩, hw1⟩, hw2⟩, hw3⟩, hf1⟩, hf2⟩ := hck
  obtain ⟨q', hq'⟩ := am_nx_of hnx
  unfold am_x_acpy at hst
  split at hst
  · rename_i n dp b sp a r
    split at hst
    · rename_i hc
      obtain ⟨ha, hbb, hka, hkb, h1, h2, h3, h4, h5, hcat⟩ := hc
      simp only [am_go, Option.some.injEq, Sum.inl.injEq, Prod.mk.injEq] at hst
      obtain ⟨rfl, rfl, rfl, rfl⟩ := hst
      simp only [List.map_cons, am_v]
      have hea := am_ws_at (b0 := b0) (cid := cid) ha
      rw [am_e_kI (Or.inl hka), hka] at hea
      have heb := am_ws_at (b0 := b0) (cid := cid) hbb
      rw [am_e_kI (Or.inl hkb), hkb] at heb
      have hcat2 : ((r.map (am_v b0 sv)).map fun v => v.category).sum ≤ 8 := by
        rw [am_cats]
        exact hcat
      refine va_copyi hx hb (by rw [hml]; exact hL.1.symm) hown (hts _ (am_has_mem hw0)) (hts _ (am_has_mem hw1)) (hts _ (am_has_mem hw2)) (hts _ (am_has_mem hw3)) hK hP am_ws_D hS a b 0 0 hea heb rfl rfl rfl h1 h2 h3 h4 h5 (fun _ _ => rfl) (by omega) (by omega) hd (fun H1 locs1 hP1 _ hS1 => ?_)
      rw [am_ws_set (S := S) (S' := am_cp S a b sp.toNatClampNeg dp.toNatClampNeg n.toNatClampNeg) rfl hbb (by
        rw [am_e_kI (S := am_cp S a b sp.toNatClampNeg dp.toNatClampNeg n.toNatClampNeg) (Or.inl hkb)]
        show Sum.inl (cid (S.2.1 b).1, (S.2.1 b).2, Sum.inl _) = _
        rw [hkb]
        exact congrArg (fun z => (Sum.inl (cid 20, (S.2.1 b).2, Sum.inl z) : va_E)) (funext fun k => by simp [am_cp, va_cpy])) (fun k hkb2 => am_e_ne rfl (by funext y; simp [am_cp, hkb2]) rfl rfl)] at hP1
      exact kk hn ht _ _ H1 locs1 real hq' hP1 hS1 hL
    · cases hst
  · cases hst

end AMT
