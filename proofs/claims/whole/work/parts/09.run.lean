section AMW
variable {G : Nat → am_M} {X : am_X} {p : Program} {l : Launch} {e : Env} {R : Room} {s : State} {mid : MethodId} {args : Array Value} {below : List Frame} {meth : Method} {c : Code} {Q : State → Prop} {D : va_G} {cid : Nat → ClassId} {b0 n0 t0 : Nat} {sv : Nat → Option Nat} {on : Nat} {mn : String} {cc : ByteArray} {rt : Option FieldType} {fr lo nL : Nat} {P : List (Nat × am_I)} {i j pc : Nat} {q : am_I} {ls st ls' st' : List Value} {S S' : am_S}
theorem am_ml_of {index m : Nat} {ts : List Nat} (h : am_ml on index m ts = true) : (on, index, m) ∈ am_ML := by
  simp only [am_ml, decide_eq_true_eq, am_de_iff] at h
  obtain ⟨e, -, he⟩ := Option.bind_eq_some_iff.mp h
  exact List.mem_of_getElem? he
set_option maxHeartbeats 1000000 in
theorem am_k_invv {m : Nat} {vs : List Value} {v : Option Value} (hML : ∀ (a b k : Nat), (a, b, k) ∈ am_ML → Cond.methodLink (am_rn a) b (G k).1 ∈ am_w) (hgm : am_gm (G m) = true) (C : am_Cx X p R s mid args meth c D cid b0 n0 sv (am_rn on) mn cc fr lo nL) (hp : P[i]? = some (pc, q)) (hck : am_c_invv G on mn cc rt fr lo P i pc q = true) (hst : am_x_invv X q i ls st S = some (.inr (.inr (m, vs, st')))) (hm : S.1.1 ≤ S'.1.1 ∧ S.1.2 ≤ S'.1.2) (hrm : S'.1.1 - n0 ≤ R.cells ∧ S'.1.2 - t0 ≤ R.slots)
    (hM : Met l (G m).1 (am_wm (G m)) (am_rm (G m) S S') (am_Pc X D cid b0 sv vs S) (am_Qc D cid b0 sv v S') (S'.1.1 - S.1.1) (S'.1.2 - S.1.2) (am_A b0)) (kk : am_At p l e R s mid args below meth c Q D cid b0 n0 t0 sv nL P (i + 1) ls (v.toList ++ st') S') : am_At p l e R s mid args below meth c Q D cid b0 n0 t0 sv nL P i ls st S := by
  intro hn ht pc2 q2 H locs real hp2 hP hS hL
  obtain ⟨rfl, rfl⟩ : pc = pc2 ∧ q = q2 := by
    rw [hp] at hp2
    cases hp2
    exact ⟨rfl, rfl⟩
  obtain ⟨hx, hb, hml, hlk, hmn, hown, hts, hK, hO, hb0, hfr, hlo⟩ := C
  refine am_sz hn hb0 hP hS (fun hz => ?_)
  have hcells : S.1.1 - n0 + (S'.1.1 - S.1.1) ≤ R.cells ∧ S.1.2 - t0 + (S'.1.2 - S.1.2) ≤ R.slots := by omega
  simp only [am_c_invv, am_mv, Bool.and_eq_true, decide_eq_true_eq, am_de_iff] at hck
  obtain ⟨⟨⟨hd, hnx⟩, ⟨⟨⟨hb1, hgc⟩, hw0⟩, hkd⟩⟩, hrn⟩ := hck
  obtain ⟨q', hq'⟩ := am_nx_of hnx
  unfold am_x_invv at hst
  split at hst
  · rename_i a hsa
    split at hst
    · rename_i hc
      obtain ⟨-, ha, hts5⟩ := hc
      split at hst
      · rename_i hc2
        obtain ⟨hlen, hcat⟩ := hc2
        simp only [Option.some.injEq, Sum.inr.injEq, Prod.mk.injEq] at hst
        obtain ⟨rfl, hvs, rfl⟩ := hst
        obtain ⟨as, h1, h2, h3⟩ := am_split hb1 hlen hsa
        rw [h1] at hvs
        subst hvs
        rw [hts5] at hrn
        simp only [Bool.and_eq_true, decide_eq_true_eq, am_de_iff] at hrn
        obtain ⟨hci, hcn⟩ := hrn
        have he := am_ws_at (b0 := b0) (cid := cid) ha
        rw [am_e_kO hci] at he
        have hrec := va_recv hK hP (am_clw hci) he
        have hg3 : ¬ (G q.2.1).2.2.2.2.2.2.2.2.1 = 3 := by omega
        obtain ⟨⟨-, -, -, -, -, hcls⟩, hk0, hk1, hk2⟩ := am_gm_of hgm hg3
        have hB := am_callB (own := am_rn on) (index := q.2.2.2.1.toNat) (S := S) (S' := S') hts hfr hlo hgc hgm hg3 (hts _ (hML _ _ _ (am_ml_of hw0)))
        have hpre := am_pre (vs := .ref a :: as) hz hP hK hO hS
        have hcat2 : (((st.drop q.2.2.1).map (am_v b0 sv)).map fun v => v.category).sum ≤ 8 := by rw [am_cats]; exact hcat
        have hr := va_runV (l := l) (e := e) (below := below) (meth := meth) (H := H) (locs := locs) (As := as.map (am_v b0 sv)) (rest := (st.drop q.2.2.1).map (am_v b0 sv)) (b := b0 + a) (C := (G q.2.1).1.cls) (g := F0 mid pc real (st.map (am_v b0 sv))) (⟨hx, hb, hml, hown, hts⟩ : CallFix p mid c cc nL s args am_w (am_rn on)) hM ⟨hB, hts _ (hk0 hkd).1, hts _ (hk0 hkd).2⟩ ⟨am_blind, by rw [← hcls, ← hcn]; exact hrec, hpre⟩ rfl (by rw [List.length_map]; exact h2) hL.1 (by
          show st.map (am_v b0 sv) = _
          conv => lhs; rw [h3]
          rw [List.map_append, List.map_reverse, List.map_cons]
          rfl) (lv_room hcat2) hd hcells
        exact am_back hr hS hm hn ht hq' hL kk
      · cases hst
    · cases hst
  · cases hst

set_option maxHeartbeats 1000000 in
theorem am_k_invt {m : Nat} {vs : List Value} {v : Option Value} (hML : ∀ (a b k : Nat), (a, b, k) ∈ am_ML → Cond.methodLink (am_rn a) b (G k).1 ∈ am_w) (hgm : am_gm (G m) = true) (C : am_Cx X p R s mid args meth c D cid b0 n0 sv (am_rn on) mn cc fr lo nL) (hp : P[i]? = some (pc, q)) (hck : am_c_invt G on mn cc rt fr lo P i pc q = true) (hst : am_x_invt X q i ls st S = some (.inr (.inr (m, vs, st')))) (hm : S.1.1 ≤ S'.1.1 ∧ S.1.2 ≤ S'.1.2) (hrm : S'.1.1 - n0 ≤ R.cells ∧ S'.1.2 - t0 ≤ R.slots)
    (hM : Met l (G m).1 (am_wm (G m)) (am_rm (G m) S S') (am_Pc X D cid b0 sv vs S) (am_Qc D cid b0 sv v S') (S'.1.1 - S.1.1) (S'.1.2 - S.1.2) (am_A b0)) (kk : am_At p l e R s mid args below meth c Q D cid b0 n0 t0 sv nL P (i + 1) ls (v.toList ++ st') S') : am_At p l e R s mid args below meth c Q D cid b0 n0 t0 sv nL P i ls st S := by
  intro hn ht pc2 q2 H locs real hp2 hP hS hL
  obtain ⟨rfl, rfl⟩ : pc = pc2 ∧ q = q2 := by
    rw [hp] at hp2
    cases hp2
    exact ⟨rfl, rfl⟩
  obtain ⟨hx, hb, hml, hlk, hmn, hown, hts, hK, hO, hb0, hfr, hlo⟩ := C
  refine am_sz hn hb0 hP hS (fun hz => ?_)
  have hcells : S.1.1 - n0 + (S'.1.1 - S.1.1) ≤ R.cells ∧ S.1.2 - t0 + (S'.1.2 - S.1.2) ≤ R.slots := by omega
  simp only [am_c_invt, am_mv, Bool.and_eq_true, decide_eq_true_eq, am_de_iff] at hck
  obtain ⟨⟨⟨hd, hnx⟩, ⟨⟨⟨hb1, hgc⟩, hw0⟩, hkd⟩⟩, hrn⟩ := hck
  obtain ⟨q', hq'⟩ := am_nx_of hnx
  unfold am_x_invt at hst
  split at hst
  · rename_i a hsa
    split at hst
    · rename_i hc
      obtain ⟨-, ha⟩ := hc
      subst ha
      split at hst
      · rename_i hc2
        obtain ⟨hlen, hcat⟩ := hc2
        simp only [Option.some.injEq, Sum.inr.injEq, Prod.mk.injEq] at hst
        obtain ⟨rfl, hvs, rfl⟩ := hst
        obtain ⟨as, h1, h2, h3⟩ := am_split hb1 hlen hsa
        rw [h1] at hvs
        subst hvs
        obtain ⟨ka, kv, hs1, -, -, hOs, -⟩ := hO.2.2.2.1
        have hrec : ∃ cell : Cell, H[ka]? = some cell ∧ cell.vm.isStatics = false ∧ s.vm.findClass "java/lang/String" = some cell.cls := by
          obtain ⟨cell, g1, g2, g3, -⟩ := hOs.kept hS.2.1
          exact ⟨cell, g1, g2, g3⟩
        have hg3 : ¬ (G q.2.1).2.2.2.2.2.2.2.2.1 = 3 := by omega
        obtain ⟨⟨-, -, -, -, -, hcls⟩, hk0, hk1, hk2⟩ := am_gm_of hgm hg3
        have hB := am_callB (own := am_rn on) (index := q.2.2.2.1.toNat) (S := S) (S' := S') hts hfr hlo hgc hgm hg3 (hts _ (hML _ _ _ (am_ml_of hw0)))
        have hpre := am_pre (vs := .retAddr 1 :: as) hz hP hK hO hS
        have hcat2 : (((st.drop q.2.2.1).map (am_v b0 sv)).map fun v => v.category).sum ≤ 8 := by rw [am_cats]; exact hcat
        have hav : am_v b0 sv (.retAddr 1) = .ref ka := by simp only [am_v, hs1, va_rf]
        rw [List.map_cons, hav] at hpre
        have hr := va_runV (l := l) (e := e) (below := below) (meth := meth) (H := H) (locs := locs) (As := as.map (am_v b0 sv)) (rest := (st.drop q.2.2.1).map (am_v b0 sv)) (b := ka) (C := (G q.2.1).1.cls) (g := F0 mid pc real (st.map (am_v b0 sv))) (⟨hx, hb, hml, hown, hts⟩ : CallFix p mid c cc nL s args am_w (am_rn on)) hM ⟨hB, hts _ (hk0 hkd).1, hts _ (hk0 hkd).2⟩ ⟨am_blind, by rw [← hcls, hrn]; exact hrec, hpre⟩ rfl (by rw [List.length_map]; exact h2) hL.1 (by
          show st.map (am_v b0 sv) = _
          conv => lhs; rw [h3]
          rw [List.map_append, List.map_reverse, List.map_cons, hav]) (lv_room hcat2) hd hcells
        exact am_back hr hS hm hn ht hq' hL kk
      · cases hst
    · cases hst
  · cases hst

set_option maxHeartbeats 1000000 in
theorem am_k_invs {m : Nat} {vs : List Value} {v : Option Value} (hML : ∀ (a b k : Nat), (a, b, k) ∈ am_ML → Cond.methodLink (am_rn a) b (G k).1 ∈ am_w) (hgm : am_gm (G m) = true) (C : am_Cx X p R s mid args meth c D cid b0 n0 sv (am_rn on) mn cc fr lo nL) (hp : P[i]? = some (pc, q)) (hck : am_c_invs G on mn cc rt fr lo P i pc q = true) (hst : am_x_invs X q i ls st S = some (.inr (.inr (m, vs, st')))) (hm : S.1.1 ≤ S'.1.1 ∧ S.1.2 ≤ S'.1.2) (hrm : S'.1.1 - n0 ≤ R.cells ∧ S'.1.2 - t0 ≤ R.slots)
    (hM : Met l (G m).1 (am_wm (G m)) (am_rm (G m) S S') (am_Pc X D cid b0 sv vs S) (am_Qc D cid b0 sv v S') (S'.1.1 - S.1.1) (S'.1.2 - S.1.2) (am_A b0)) (kk : am_At p l e R s mid args below meth c Q D cid b0 n0 t0 sv nL P (i + 1) ls (v.toList ++ st') S') : am_At p l e R s mid args below meth c Q D cid b0 n0 t0 sv nL P i ls st S := by
  intro hn ht pc2 q2 H locs real hp2 hP hS hL
  obtain ⟨rfl, rfl⟩ : pc = pc2 ∧ q = q2 := by
    rw [hp] at hp2
    cases hp2
    exact ⟨rfl, rfl⟩
  obtain ⟨hx, hb, hml, hlk, hmn, hown, hts, hK, hO, hb0, hfr, hlo⟩ := C
  refine am_sz hn hb0 hP hS (fun hz => ?_)
  have hcells : S.1.1 - n0 + (S'.1.1 - S.1.1) ≤ R.cells ∧ S.1.2 - t0 + (S'.1.2 - S.1.2) ≤ R.slots := by omega
  simp only [am_c_invs, am_ms, Bool.and_eq_true, decide_eq_true_eq, am_de_iff] at hck
  obtain ⟨⟨hd, hnx⟩, ⟨⟨hgc, hw0⟩, hkd⟩⟩ := hck
  obtain ⟨q', hq'⟩ := am_nx_of hnx
  unfold am_x_invs at hst
  split at hst
  · rename_i hc2
    obtain ⟨hlen, hcat⟩ := hc2
    simp only [Option.some.injEq, Sum.inr.injEq, Prod.mk.injEq] at hst
    obtain ⟨rfl, rfl, rfl⟩ := hst
    have hg3 : ¬ (G q.2.1).2.2.2.2.2.2.2.2.1 = 3 := by omega
    obtain ⟨⟨-, -, -, -, -, hcls⟩, hk0, hk1, hk2⟩ := am_gm_of hgm hg3
    have hB := am_callB (own := am_rn on) (index := q.2.2.2.1.toNat) (S := S) (S' := S') hts hfr hlo hgc hgm hg3 (hts _ (hML _ _ _ (am_ml_of hw0)))
    have hpre := am_pre (vs := (st.take q.2.2.1).reverse) hz hP hK hO hS
    have hcat2 : (((st.drop q.2.2.1).map (am_v b0 sv)).map fun v => v.category).sum ≤ 8 := by rw [am_cats]; exact hcat
    have hr := va_runS (l := l) (e := e) (below := below) (meth := meth) (H := H) (locs := locs) (As := ((st.take q.2.2.1).reverse).map (am_v b0 sv)) (rest := (st.drop q.2.2.1).map (am_v b0 sv)) (g := F0 mid pc real (st.map (am_v b0 sv))) (⟨hx, hb, hml, hown, hts⟩ : CallFix p mid c cc nL s args am_w (am_rn on)) hM ⟨hB, hts _ (hk1 hkd)⟩ ⟨am_blind, hpre⟩ rfl (by rw [List.length_map, List.length_reverse, List.length_take]; omega) hL.1 (by
      show st.map (am_v b0 sv) = _
      rw [← List.map_reverse, List.reverse_reverse, ← List.map_append, List.take_append_drop]) (lv_room hcat2) hd hcells
    exact am_back hr hS hm hn ht hq' hL kk
  · cases hst

set_option maxHeartbeats 1000000 in
theorem am_k_invi {m : Nat} {vs : List Value} {v : Option Value} (hML : ∀ (a b k : Nat), (a, b, k) ∈ am_ML → Cond.methodLink (am_rn a) b (G k).1 ∈ am_w) (hgm : am_gm (G m) = true) (C : am_Cx X p R s mid args meth c D cid b0 n0 sv (am_rn on) mn cc fr lo nL) (hp : P[i]? = some (pc, q)) (hck : am_c_invi G on mn cc rt fr lo P i pc q = true) (hst : am_x_invi X q i ls st S = some (.inr (.inr (m, vs, st')))) (hm : S.1.1 ≤ S'.1.1 ∧ S.1.2 ≤ S'.1.2) (hrm : S'.1.1 - n0 ≤ R.cells ∧ S'.1.2 - t0 ≤ R.slots)
    (hM : Met l (G m).1 (am_wm (G m)) (am_rm (G m) S S') (am_Pc X D cid b0 sv vs S) (am_Qc D cid b0 sv v S') (S'.1.1 - S.1.1) (S'.1.2 - S.1.2) (am_A b0)) (kk : am_At p l e R s mid args below meth c Q D cid b0 n0 t0 sv nL P (i + 1) ls (v.toList ++ st') S') : am_At p l e R s mid args below meth c Q D cid b0 n0 t0 sv nL P i ls st S := by
  intro hn ht pc2 q2 H locs real hp2 hP hS hL
  obtain ⟨rfl, rfl⟩ : pc = pc2 ∧ q = q2 := by
    rw [hp] at hp2
    cases hp2
    exact ⟨rfl, rfl⟩
  obtain ⟨hx, hb, hml, hlk, hmn, hown, hts, hK, hO, hb0, hfr, hlo⟩ := C
  refine am_sz hn hb0 hP hS (fun hz => ?_)
  have hcells : S.1.1 - n0 + (S'.1.1 - S.1.1) ≤ R.cells ∧ S.1.2 - t0 + (S'.1.2 - S.1.2) ≤ R.slots := by omega
  simp only [am_c_invi, am_mi, Bool.and_eq_true, decide_eq_true_eq, am_de_iff] at hck
  obtain ⟨⟨hd, hnx⟩, ⟨⟨⟨hb1, hgc⟩, hw0⟩, hkd⟩⟩ := hck
  obtain ⟨q', hq'⟩ := am_nx_of hnx
  unfold am_x_invi at hst
  split at hst
  · rename_i a hsa
    rw [if_pos hb1] at hst
    · split at hst
      · rename_i hc2
        obtain ⟨hlen, hcat⟩ := hc2
        simp only [Option.some.injEq, Sum.inr.injEq, Prod.mk.injEq] at hst
        obtain ⟨rfl, hvs, rfl⟩ := hst
        obtain ⟨as, h1, h2, h3⟩ := am_split hb1 hlen hsa
        rw [h1] at hvs
        subst hvs
        have hpre := am_pre (vs := .ref a :: as) hz hP hK hO hS
        have hcat2 : (((st.drop q.2.2.1).map (am_v b0 sv)).map fun v => v.category).sum ≤ 8 := by rw [am_cats]; exact hcat
        have hg3 : ¬ (G q.2.1).2.2.2.2.2.2.2.2.1 = 3 := by omega
        obtain ⟨⟨-, -, -, -, -, hcls⟩, hk0, hk1, hk2⟩ := am_gm_of hgm hg3
        have hB := am_callB (own := am_rn on) (index := q.2.2.2.1.toNat) (S := S) (S' := S') hts hfr hlo hgc hgm hg3 (hts _ (hML _ _ _ (am_ml_of hw0)))
        rw [(hk2 hkd).2.2] at hB
        have hr := va_runI (l := l) (e := e) (below := below) (meth := meth) (H := H) (locs := locs) (As := as.map (am_v b0 sv)) (rest := (st.drop q.2.2.1).map (am_v b0 sv)) (b := b0 + a) (g := F0 mid pc real (st.map (am_v b0 sv))) (⟨hx, hb, hml, hown, hts⟩ : CallFix p mid c cc nL s args am_w (am_rn on)) hM ⟨hB, (hk2 hkd).2.1, hts _ (hk2 hkd).1⟩ ⟨am_blind, hpre⟩ rfl (by rw [List.length_map]; exact h2) hL.1 (by
          show st.map (am_v b0 sv) = _
          conv => lhs; rw [h3]
          rw [List.map_append, List.map_reverse, List.map_cons]
          rfl) (lv_room hcat2) hd hcells
        exact am_back hr hS hm hn ht hq' hL kk
      · cases hst
  · cases hst

theorem am_callN {own : String} {g : am_M} {n index : Nat} {host : String} (hts : ∀ w ∈ am_w, w.before args s = true) (hfr : fr ≤ R.frames) (hlo : lo ≤ R.locals) (h : am_gc g n fr lo = true) (hgm : am_gm g = true) (h3 : ¬ g.2.2.2.2.2.2.2.2.1 = 3) (hl : va_Nw (.methodLinkNest own index g.1 host) s) : va_CN R s args own index g.1 host g.2.1 g.2.2.1 g.2.2.2.1 (am_wm g) (am_rm g S S') (S'.1.1 - S.1.1) (S'.1.2 - S.1.2) n := by
  simp only [am_gc, Bool.and_eq_true, decide_eq_true_eq, am_de_iff] at h
  obtain ⟨⟨h1, h2⟩, h4⟩ := h
  obtain ⟨⟨g1, g2, g3, g4, g5, g6⟩, -⟩ := am_gm_of hgm h3
  refine va_cnB (Ts := am_w) n hts (fun w hw => ?_) rfl rfl rfl hl (hts _ g4) ⟨g1.1, g1.2, by rw [g2, h1]⟩ ⟨by show g.2.2.2.2.2.1 + 1 ≤ R.frames; omega, by show 8 + (g.2.2.1 + 11) + g.2.2.2.2.2.2.1 ≤ R.locals; omega⟩
  have hm : w ∈ am_w := by
    rcases List.mem_cons.mp hw with rfl | hw
    · exact g3
    · exact hw
  exact ⟨hm, good_of_word (List.mem_filter.mp hm).2⟩
set_option maxHeartbeats 1000000 in
theorem am_k_invn {m : Nat} {vs : List Value} {v : Option Value} (hML : ∀ (a b k : Nat), (a, b, k) ∈ am_ML → Cond.methodLink (am_rn a) b (G k).1 ∈ am_w) (hgm : am_gm (G m) = true) (C : am_Cx X p R s mid args meth c D cid b0 n0 sv (am_rn on) mn cc fr lo nL) (hp : P[i]? = some (pc, q)) (hck : am_c_invn G on mn cc rt fr lo P i pc q = true) (hst : am_x_invn X q i ls st S = some (.inr (.inr (m, vs, st')))) (hm : S.1.1 ≤ S'.1.1 ∧ S.1.2 ≤ S'.1.2) (hrm : S'.1.1 - n0 ≤ R.cells ∧ S'.1.2 - t0 ≤ R.slots)
    (hM : Met l (G m).1 (am_wm (G m)) (am_rm (G m) S S') (am_Pc X D cid b0 sv vs S) (am_Qc D cid b0 sv v S') (S'.1.1 - S.1.1) (S'.1.2 - S.1.2) (am_A b0)) (kk : am_At p l e R s mid args below meth c Q D cid b0 n0 t0 sv nL P (i + 1) ls (v.toList ++ st') S') : am_At p l e R s mid args below meth c Q D cid b0 n0 t0 sv nL P i ls st S := by
  intro hn ht pc2 q2 H locs real hp2 hP hS hL
  obtain ⟨rfl, rfl⟩ : pc = pc2 ∧ q = q2 := by
    rw [hp] at hp2
    cases hp2
    exact ⟨rfl, rfl⟩
  obtain ⟨hx, hb, hml, hlk, hmn, hown, hts, hK, hO, hb0, hfr, hlo⟩ := C
  refine am_sz hn hb0 hP hS (fun hz => ?_)
  have hcells : S.1.1 - n0 + (S'.1.1 - S.1.1) ≤ R.cells ∧ S.1.2 - t0 + (S'.1.2 - S.1.2) ≤ R.slots := by omega
  simp only [am_c_invn, am_mn, Bool.and_eq_true, decide_eq_true_eq, am_de_iff] at hck
  obtain ⟨⟨hd, hnx⟩, ⟨⟨⟨hb1, hgc⟩, hw0⟩, hkd⟩⟩ := hck
  obtain ⟨q', hq'⟩ := am_nx_of hnx
  unfold am_x_invn at hst
  split at hst
  · rename_i a hsa
    rw [if_pos hb1] at hst
    · split at hst
      · rename_i hc2
        obtain ⟨hlen, hcat⟩ := hc2
        simp only [Option.some.injEq, Sum.inr.injEq, Prod.mk.injEq] at hst
        obtain ⟨rfl, hvs, rfl⟩ := hst
        obtain ⟨as, h1, h2, h3⟩ := am_split hb1 hlen hsa
        rw [h1] at hvs
        subst hvs
        have hpre := am_pre (vs := .ref a :: as) hz hP hK hO hS
        have hcat2 : (((st.drop q.2.2.1).map (am_v b0 sv)).map fun v => v.category).sum ≤ 8 := by rw [am_cats]; exact hcat
        have hg3 : ¬ (G q.2.1).2.2.2.2.2.2.2.2.1 = 3 := by omega
        obtain ⟨⟨-, -, -, -, -, hcls⟩, hk0, hk1, hk2⟩ := am_gm_of hgm hg3
        have hB := am_callN (own := am_rn on) (S := S) (S' := S') hts hfr hlo hgc hgm hg3 (hO.2.2.2.2.2.1 _ hw0)
        rw [(hk2 hkd).2.2] at hB
        have hr := va_runIN (l := l) (e := e) (below := below) (meth := meth) (H := H) (locs := locs) (As := as.map (am_v b0 sv)) (rest := (st.drop q.2.2.1).map (am_v b0 sv)) (b := b0 + a) (g := F0 mid pc real (st.map (am_v b0 sv))) (⟨hx, hb, hml, hown, hts⟩ : CallFix p mid c cc nL s args am_w (am_rn on)) hM ⟨hB, (hk2 hkd).2.1, hts _ (hk2 hkd).1⟩ ⟨am_blind, hpre⟩ rfl (by rw [List.length_map]; exact h2) hL.1 (by
          show st.map (am_v b0 sv) = _
          conv => lhs; rw [h3]
          rw [List.map_append, List.map_reverse, List.map_cons]
          rfl) (lv_room hcat2) hd hcells
        exact am_back hr hS hm hn ht hq' hL kk
      · cases hst
  · cases hst

theorem am_z_iconst {z : Nat × List Value × List Value} (h : am_x_iconst X q i ls st S = some (.inr (.inr z))) : False := by
  unfold am_x_iconst at h
  try unfold am_go at h
  repeat' split at h
  all_goals cases h
theorem am_z_bipush {z : Nat × List Value × List Value} (h : am_x_bipush X q i ls st S = some (.inr (.inr z))) : False := by
  unfold am_x_bipush at h
  try unfold am_go at h
  repeat' split at h
  all_goals cases h
theorem am_z_sipush {z : Nat × List Value × List Value} (h : am_x_sipush X q i ls st S = some (.inr (.inr z))) : False := by
  unfold am_x_sipush at h
  try unfold am_go at h
  repeat' split at h
  all_goals cases h
theorem am_z_ldc {z : Nat × List Value × List Value} (h : am_x_ldc X q i ls st S = some (.inr (.inr z))) : False := by
  unfold am_x_ldc at h
  try unfold am_go at h
  repeat' split at h
  all_goals cases h
theorem am_z_ldcw {z : Nat × List Value × List Value} (h : am_x_ldcw X q i ls st S = some (.inr (.inr z))) : False := by
  unfold am_x_ldcw at h
  try unfold am_go at h
  repeat' split at h
  all_goals cases h
theorem am_z_iload {z : Nat × List Value × List Value} (h : am_x_iload X q i ls st S = some (.inr (.inr z))) : False := by
  unfold am_x_iload at h
  try unfold am_go at h
  repeat' split at h
  all_goals cases h
theorem am_z_aload {z : Nat × List Value × List Value} (h : am_x_aload X q i ls st S = some (.inr (.inr z))) : False := by
  unfold am_x_aload at h
  try unfold am_go at h
  repeat' split at h
  all_goals cases h
theorem am_z_lload {z : Nat × List Value × List Value} (h : am_x_lload X q i ls st S = some (.inr (.inr z))) : False := by
  unfold am_x_lload at h
  try unfold am_go at h
  repeat' split at h
  all_goals cases h
theorem am_z_istore {z : Nat × List Value × List Value} (h : am_x_istore X q i ls st S = some (.inr (.inr z))) : False := by
  unfold am_x_istore at h
  try unfold am_go at h
  repeat' split at h
  all_goals cases h
theorem am_z_astore {z : Nat × List Value × List Value} (h : am_x_astore X q i ls st S = some (.inr (.inr z))) : False := by
  unfold am_x_astore at h
  try unfold am_go at h
  repeat' split at h
  all_goals cases h
theorem am_z_lstore {z : Nat × List Value × List Value} (h : am_x_lstore X q i ls st S = some (.inr (.inr z))) : False := by
  unfold am_x_lstore at h
  try unfold am_go at h
  repeat' split at h
  all_goals cases h
theorem am_z_iinc {z : Nat × List Value × List Value} (h : am_x_iinc X q i ls st S = some (.inr (.inr z))) : False := by
  unfold am_x_iinc at h
  try unfold am_go at h
  repeat' split at h
  all_goals cases h
theorem am_z_iadd {z : Nat × List Value × List Value} (h : am_x_iadd X q i ls st S = some (.inr (.inr z))) : False := by
  unfold am_x_iadd at h
  try unfold am_go at h
  repeat' split at h
  all_goals cases h
theorem am_z_isub {z : Nat × List Value × List Value} (h : am_x_isub X q i ls st S = some (.inr (.inr z))) : False := by
  unfold am_x_isub at h
  try unfold am_go at h
  repeat' split at h
  all_goals cases h
theorem am_z_imul {z : Nat × List Value × List Value} (h : am_x_imul X q i ls st S = some (.inr (.inr z))) : False := by
  unfold am_x_imul at h
  try unfold am_go at h
  repeat' split at h
  all_goals cases h
theorem am_z_iand {z : Nat × List Value × List Value} (h : am_x_iand X q i ls st S = some (.inr (.inr z))) : False := by
  unfold am_x_iand at h
  try unfold am_go at h
  repeat' split at h
  all_goals cases h
theorem am_z_ior {z : Nat × List Value × List Value} (h : am_x_ior X q i ls st S = some (.inr (.inr z))) : False := by
  unfold am_x_ior at h
  try unfold am_go at h
  repeat' split at h
  all_goals cases h
theorem am_z_ixor {z : Nat × List Value × List Value} (h : am_x_ixor X q i ls st S = some (.inr (.inr z))) : False := by
  unfold am_x_ixor at h
  try unfold am_go at h
  repeat' split at h
  all_goals cases h
theorem am_z_ishl {z : Nat × List Value × List Value} (h : am_x_ishl X q i ls st S = some (.inr (.inr z))) : False := by
  unfold am_x_ishl at h
  try unfold am_go at h
  repeat' split at h
  all_goals cases h
theorem am_z_ishr {z : Nat × List Value × List Value} (h : am_x_ishr X q i ls st S = some (.inr (.inr z))) : False := by
  unfold am_x_ishr at h
  try unfold am_go at h
  repeat' split at h
  all_goals cases h
theorem am_z_iushr {z : Nat × List Value × List Value} (h : am_x_iushr X q i ls st S = some (.inr (.inr z))) : False := by
  unfold am_x_iushr at h
  try unfold am_go at h
  repeat' split at h
  all_goals cases h
theorem am_z_ineg {z : Nat × List Value × List Value} (h : am_x_ineg X q i ls st S = some (.inr (.inr z))) : False := by
  unfold am_x_ineg at h
  try unfold am_go at h
  repeat' split at h
  all_goals cases h
theorem am_z_idiv {z : Nat × List Value × List Value} (h : am_x_idiv X q i ls st S = some (.inr (.inr z))) : False := by
  unfold am_x_idiv at h
  try unfold am_go at h
  repeat' split at h
  all_goals cases h
theorem am_z_irem {z : Nat × List Value × List Value} (h : am_x_irem X q i ls st S = some (.inr (.inr z))) : False := by
  unfold am_x_irem at h
  try unfold am_go at h
  repeat' split at h
  all_goals cases h
theorem am_z_ladd {z : Nat × List Value × List Value} (h : am_x_ladd X q i ls st S = some (.inr (.inr z))) : False := by
  unfold am_x_ladd at h
  try unfold am_go at h
  repeat' split at h
  all_goals cases h
theorem am_z_lsub {z : Nat × List Value × List Value} (h : am_x_lsub X q i ls st S = some (.inr (.inr z))) : False := by
  unfold am_x_lsub at h
  try unfold am_go at h
  repeat' split at h
  all_goals cases h
theorem am_z_lmul {z : Nat × List Value × List Value} (h : am_x_lmul X q i ls st S = some (.inr (.inr z))) : False := by
  unfold am_x_lmul at h
  try unfold am_go at h
  repeat' split at h
  all_goals cases h
theorem am_z_land {z : Nat × List Value × List Value} (h : am_x_land X q i ls st S = some (.inr (.inr z))) : False := by
  unfold am_x_land at h
  try unfold am_go at h
  repeat' split at h
  all_goals cases h
theorem am_z_lor {z : Nat × List Value × List Value} (h : am_x_lor X q i ls st S = some (.inr (.inr z))) : False := by
  unfold am_x_lor at h
  try unfold am_go at h
  repeat' split at h
  all_goals cases h
theorem am_z_lshl {z : Nat × List Value × List Value} (h : am_x_lshl X q i ls st S = some (.inr (.inr z))) : False := by
  unfold am_x_lshl at h
  try unfold am_go at h
  repeat' split at h
  all_goals cases h
theorem am_z_lushr {z : Nat × List Value × List Value} (h : am_x_lushr X q i ls st S = some (.inr (.inr z))) : False := by
  unfold am_x_lushr at h
  try unfold am_go at h
  repeat' split at h
  all_goals cases h
theorem am_z_lrem {z : Nat × List Value × List Value} (h : am_x_lrem X q i ls st S = some (.inr (.inr z))) : False := by
  unfold am_x_lrem at h
  try unfold am_go at h
  repeat' split at h
  all_goals cases h
theorem am_z_i2l {z : Nat × List Value × List Value} (h : am_x_i2l X q i ls st S = some (.inr (.inr z))) : False := by
  unfold am_x_i2l at h
  try unfold am_go at h
  repeat' split at h
  all_goals cases h
theorem am_z_l2i {z : Nat × List Value × List Value} (h : am_x_l2i X q i ls st S = some (.inr (.inr z))) : False := by
  unfold am_x_l2i at h
  try unfold am_go at h
  repeat' split at h
  all_goals cases h
theorem am_z_i2c {z : Nat × List Value × List Value} (h : am_x_i2c X q i ls st S = some (.inr (.inr z))) : False := by
  unfold am_x_i2c at h
  try unfold am_go at h
  repeat' split at h
  all_goals cases h
theorem am_z_lconst {z : Nat × List Value × List Value} (h : am_x_lconst X q i ls st S = some (.inr (.inr z))) : False := by
  unfold am_x_lconst at h
  try unfold am_go at h
  repeat' split at h
  all_goals cases h
theorem am_z_ldc2 {z : Nat × List Value × List Value} (h : am_x_ldc2 X q i ls st S = some (.inr (.inr z))) : False := by
  unfold am_x_ldc2 at h
  try unfold am_go at h
  repeat' split at h
  all_goals cases h
theorem am_z_dup {z : Nat × List Value × List Value} (h : am_x_dup X q i ls st S = some (.inr (.inr z))) : False := by
  unfold am_x_dup at h
  try unfold am_go at h
  repeat' split at h
  all_goals cases h
theorem am_z_pop {z : Nat × List Value × List Value} (h : am_x_pop X q i ls st S = some (.inr (.inr z))) : False := by
  unfold am_x_pop at h
  try unfold am_go at h
  repeat' split at h
  all_goals cases h
theorem am_z_dup2 {z : Nat × List Value × List Value} (h : am_x_dup2 X q i ls st S = some (.inr (.inr z))) : False := by
  unfold am_x_dup2 at h
  try unfold am_go at h
  repeat' split at h
  all_goals cases h
theorem am_z_ifc {z : Nat × List Value × List Value} (h : am_x_ifc X q i ls st S = some (.inr (.inr z))) : False := by
  unfold am_x_ifc at h
  try unfold am_go at h
  repeat' split at h
  all_goals cases h
theorem am_z_icmp {z : Nat × List Value × List Value} (h : am_x_icmp X q i ls st S = some (.inr (.inr z))) : False := by
  unfold am_x_icmp at h
  try unfold am_go at h
  repeat' split at h
  all_goals cases h
theorem am_z_goto {z : Nat × List Value × List Value} (h : am_x_goto X q i ls st S = some (.inr (.inr z))) : False := by
  unfold am_x_goto at h
  try unfold am_go at h
  repeat' split at h
  all_goals cases h
theorem am_z_tsw {z : Nat × List Value × List Value} (h : am_x_tsw X q i ls st S = some (.inr (.inr z))) : False := by
  unfold am_x_tsw at h
  try unfold am_go at h
  repeat' split at h
  all_goals cases h
theorem am_z_getf {z : Nat × List Value × List Value} (h : am_x_getf X q i ls st S = some (.inr (.inr z))) : False := by
  unfold am_x_getf at h
  try unfold am_go at h
  repeat' split at h
  all_goals cases h
theorem am_z_putf {z : Nat × List Value × List Value} (h : am_x_putf X q i ls st S = some (.inr (.inr z))) : False := by
  unfold am_x_putf at h
  try unfold am_go at h
  repeat' split at h
  all_goals cases h
theorem am_z_putr {z : Nat × List Value × List Value} (h : am_x_putr X q i ls st S = some (.inr (.inr z))) : False := by
  unfold am_x_putr at h
  try unfold am_go at h
  repeat' split at h
  all_goals cases h
theorem am_z_iald {z : Nat × List Value × List Value} (h : am_x_iald X q i ls st S = some (.inr (.inr z))) : False := by
  unfold am_x_iald at h
  try unfold am_go at h
  repeat' split at h
  all_goals cases h
theorem am_z_iast {z : Nat × List Value × List Value} (h : am_x_iast X q i ls st S = some (.inr (.inr z))) : False := by
  unfold am_x_iast at h
  try unfold am_go at h
  repeat' split at h
  all_goals cases h
theorem am_z_zald {z : Nat × List Value × List Value} (h : am_x_zald X q i ls st S = some (.inr (.inr z))) : False := by
  unfold am_x_zald at h
  try unfold am_go at h
  repeat' split at h
  all_goals cases h
theorem am_z_zast {z : Nat × List Value × List Value} (h : am_x_zast X q i ls st S = some (.inr (.inr z))) : False := by
  unfold am_x_zast at h
  try unfold am_go at h
  repeat' split at h
  all_goals cases h
theorem am_z_lald {z : Nat × List Value × List Value} (h : am_x_lald X q i ls st S = some (.inr (.inr z))) : False := by
  unfold am_x_lald at h
  try unfold am_go at h
  repeat' split at h
  all_goals cases h
theorem am_z_last {z : Nat × List Value × List Value} (h : am_x_last X q i ls st S = some (.inr (.inr z))) : False := by
  unfold am_x_last at h
  try unfold am_go at h
  repeat' split at h
  all_goals cases h
theorem am_z_aald {z : Nat × List Value × List Value} (h : am_x_aald X q i ls st S = some (.inr (.inr z))) : False := by
  unfold am_x_aald at h
  try unfold am_go at h
  repeat' split at h
  all_goals cases h
theorem am_z_aast {z : Nat × List Value × List Value} (h : am_x_aast X q i ls st S = some (.inr (.inr z))) : False := by
  unfold am_x_aast at h
  try unfold am_go at h
  repeat' split at h
  all_goals cases h
theorem am_z_alen {z : Nat × List Value × List Value} (h : am_x_alen X q i ls st S = some (.inr (.inr z))) : False := by
  unfold am_x_alen at h
  try unfold am_go at h
  repeat' split at h
  all_goals cases h
theorem am_z_gets {z : Nat × List Value × List Value} (h : am_x_gets X q i ls st S = some (.inr (.inr z))) : False := by
  unfold am_x_gets at h
  try unfold am_go at h
  repeat' split at h
  all_goals cases h
theorem am_z_gets_of_text {z : Nat × List Value × List Value} (h : am_x_gets_of_text X q i ls st S = some (.inr (.inr z))) : False := by
  unfold am_x_gets_of_text at h
  try unfold am_go at h
  repeat' split at h
  all_goals cases h
theorem am_z_ldcs {z : Nat × List Value × List Value} (h : am_x_ldcs X q i ls st S = some (.inr (.inr z))) : False := by
  unfold am_x_ldcs at h
  try unfold am_go at h
  repeat' split at h
  all_goals cases h
theorem am_z_oini {z : Nat × List Value × List Value} (h : am_x_oini X q i ls st S = some (.inr (.inr z))) : False := by
  unfold am_x_oini at h
  try unfold am_go at h
  repeat' split at h
  all_goals cases h
theorem am_z_new {z : Nat × List Value × List Value} (h : am_x_new X q i ls st S = some (.inr (.inr z))) : False := by
  unfold am_x_new at h
  try unfold am_go at h
  repeat' split at h
  all_goals cases h
theorem am_z_newa {z : Nat × List Value × List Value} (h : am_x_newa X q i ls st S = some (.inr (.inr z))) : False := by
  unfold am_x_newa at h
  try unfold am_go at h
  repeat' split at h
  all_goals cases h
theorem am_z_anew {z : Nat × List Value × List Value} (h : am_x_anew X q i ls st S = some (.inr (.inr z))) : False := by
  unfold am_x_anew at h
  try unfold am_go at h
  repeat' split at h
  all_goals cases h
theorem am_z_mnew {z : Nat × List Value × List Value} (h : am_x_mnew X q i ls st S = some (.inr (.inr z))) : False := by
  unfold am_x_mnew at h
  try unfold am_go at h
  repeat' split at h
  all_goals cases h
theorem am_z_acpy {z : Nat × List Value × List Value} (h : am_x_acpy X q i ls st S = some (.inr (.inr z))) : False := by
  unfold am_x_acpy at h
  try unfold am_go at h
  repeat' split at h
  all_goals cases h
theorem am_z_iret {z : Nat × List Value × List Value} (h : am_x_iret X q i ls st S = some (.inr (.inr z))) : False := by
  unfold am_x_iret at h
  try unfold am_go at h
  repeat' split at h
  all_goals cases h
theorem am_z_lret {z : Nat × List Value × List Value} (h : am_x_lret X q i ls st S = some (.inr (.inr z))) : False := by
  unfold am_x_lret at h
  try unfold am_go at h
  repeat' split at h
  all_goals cases h
theorem am_z_aret {z : Nat × List Value × List Value} (h : am_x_aret X q i ls st S = some (.inr (.inr z))) : False := by
  unfold am_x_aret at h
  try unfold am_go at h
  repeat' split at h
  all_goals cases h
theorem am_z_vret {z : Nat × List Value × List Value} (h : am_x_vret X q i ls st S = some (.inr (.inr z))) : False := by
  unfold am_x_vret at h
  try unfold am_go at h
  repeat' split at h
  all_goals cases h
theorem am_call {m : Nat} {vs : List Value} {v : Option Value} (hML : ∀ (a b k : Nat), (a, b, k) ∈ am_ML → Cond.methodLink (am_rn a) b (G k).1 ∈ am_w) (hgm : am_gm (G m) = true) (C : am_Cx X p R s mid args meth c D cid b0 n0 sv (am_rn on) mn cc fr lo nL) (hp : P[i]? = some (pc, q)) (hck : am_ck G on mn cc rt fr lo P i pc q = true) (hst : am_step X q i ls st S = some (.inr (.inr (m, vs, st')))) (hm : S.1.1 ≤ S'.1.1 ∧ S.1.2 ≤ S'.1.2) (hrm : S'.1.1 - n0 ≤ R.cells ∧ S'.1.2 - t0 ≤ R.slots)
    (hM : Met l (G m).1 (am_wm (G m)) (am_rm (G m) S S') (am_Pc X D cid b0 sv vs S) (am_Qc D cid b0 sv v S') (S'.1.1 - S.1.1) (S'.1.2 - S.1.2) (am_A b0)) (kk : am_At p l e R s mid args below meth c Q D cid b0 n0 t0 sv nL P (i + 1) ls (v.toList ++ st') S') : am_At p l e R s mid args below meth c Q D cid b0 n0 t0 sv nL P i ls st S := by
  unfold am_step at hst
  unfold am_ck at hck
  by_cases h0 : q.1 = 0
  · rw [if_pos h0] at hst hck
    exact absurd hst (fun z => am_z_iconst z)
  rw [if_neg h0] at hst hck
  by_cases h1 : q.1 = 1
  · rw [if_pos h1] at hst hck
    exact absurd hst (fun z => am_z_bipush z)
  rw [if_neg h1] at hst hck
  by_cases h2 : q.1 = 2
  · rw [if_pos h2] at hst hck
    exact absurd hst (fun z => am_z_sipush z)
  rw [if_neg h2] at hst hck
  by_cases h3 : q.1 = 3
  · rw [if_pos h3] at hst hck
    exact absurd hst (fun z => am_z_ldc z)
  rw [if_neg h3] at hst hck
  by_cases h4 : q.1 = 4
  · rw [if_pos h4] at hst hck
    exact absurd hst (fun z => am_z_ldcw z)
  rw [if_neg h4] at hst hck
  by_cases h5 : q.1 = 5
  · rw [if_pos h5] at hst hck
    exact absurd hst (fun z => am_z_iload z)
  rw [if_neg h5] at hst hck
  by_cases h6 : q.1 = 6
  · rw [if_pos h6] at hst hck
    exact absurd hst (fun z => am_z_aload z)
  rw [if_neg h6] at hst hck
  by_cases h7 : q.1 = 7
  · rw [if_pos h7] at hst hck
    exact absurd hst (fun z => am_z_lload z)
  rw [if_neg h7] at hst hck
  by_cases h8 : q.1 = 8
  · rw [if_pos h8] at hst hck
    exact absurd hst (fun z => am_z_istore z)
  rw [if_neg h8] at hst hck
  by_cases h9 : q.1 = 9
  · rw [if_pos h9] at hst hck
    exact absurd hst (fun z => am_z_astore z)
  rw [if_neg h9] at hst hck
  by_cases h10 : q.1 = 10
  · rw [if_pos h10] at hst hck
    exact absurd hst (fun z => am_z_lstore z)
  rw [if_neg h10] at hst hck
  by_cases h11 : q.1 = 11
  · rw [if_pos h11] at hst hck
    exact absurd hst (fun z => am_z_iinc z)
  rw [if_neg h11] at hst hck
  by_cases h12 : q.1 = 12
  · rw [if_pos h12] at hst hck
    exact absurd hst (fun z => am_z_iadd z)
  rw [if_neg h12] at hst hck
  by_cases h13 : q.1 = 13
  · rw [if_pos h13] at hst hck
    exact absurd hst (fun z => am_z_isub z)
  rw [if_neg h13] at hst hck
  by_cases h14 : q.1 = 14
  · rw [if_pos h14] at hst hck
    exact absurd hst (fun z => am_z_imul z)
  rw [if_neg h14] at hst hck
  by_cases h15 : q.1 = 15
  · rw [if_pos h15] at hst hck
    exact absurd hst (fun z => am_z_iand z)
  rw [if_neg h15] at hst hck
  by_cases h16 : q.1 = 16
  · rw [if_pos h16] at hst hck
    exact absurd hst (fun z => am_z_ior z)
  rw [if_neg h16] at hst hck
  by_cases h17 : q.1 = 17
  · rw [if_pos h17] at hst hck
    exact absurd hst (fun z => am_z_ixor z)
  rw [if_neg h17] at hst hck
  by_cases h18 : q.1 = 18
  · rw [if_pos h18] at hst hck
    exact absurd hst (fun z => am_z_ishl z)
  rw [if_neg h18] at hst hck
  by_cases h19 : q.1 = 19
  · rw [if_pos h19] at hst hck
    exact absurd hst (fun z => am_z_ishr z)
  rw [if_neg h19] at hst hck
  by_cases h20 : q.1 = 20
  · rw [if_pos h20] at hst hck
    exact absurd hst (fun z => am_z_iushr z)
  rw [if_neg h20] at hst hck
  by_cases h21 : q.1 = 21
  · rw [if_pos h21] at hst hck
    exact absurd hst (fun z => am_z_ineg z)
  rw [if_neg h21] at hst hck
  by_cases h22 : q.1 = 22
  · rw [if_pos h22] at hst hck
    exact absurd hst (fun z => am_z_idiv z)
  rw [if_neg h22] at hst hck
  by_cases h23 : q.1 = 23
  · rw [if_pos h23] at hst hck
    exact absurd hst (fun z => am_z_irem z)
  rw [if_neg h23] at hst hck
  by_cases h24 : q.1 = 24
  · rw [if_pos h24] at hst hck
    exact absurd hst (fun z => am_z_ladd z)
  rw [if_neg h24] at hst hck
  by_cases h25 : q.1 = 25
  · rw [if_pos h25] at hst hck
    exact absurd hst (fun z => am_z_lsub z)
  rw [if_neg h25] at hst hck
  by_cases h26 : q.1 = 26
  · rw [if_pos h26] at hst hck
    exact absurd hst (fun z => am_z_lmul z)
  rw [if_neg h26] at hst hck
  by_cases h27 : q.1 = 27
  · rw [if_pos h27] at hst hck
    exact absurd hst (fun z => am_z_land z)
  rw [if_neg h27] at hst hck
  by_cases h28 : q.1 = 28
  · rw [if_pos h28] at hst hck
    exact absurd hst (fun z => am_z_lor z)
  rw [if_neg h28] at hst hck
  by_cases h29 : q.1 = 29
  · rw [if_pos h29] at hst hck
    exact absurd hst (fun z => am_z_lshl z)
  rw [if_neg h29] at hst hck
  by_cases h30 : q.1 = 30
  · rw [if_pos h30] at hst hck
    exact absurd hst (fun z => am_z_lushr z)
  rw [if_neg h30] at hst hck
  by_cases h31 : q.1 = 31
  · rw [if_pos h31] at hst hck
    exact absurd hst (fun z => am_z_lrem z)
  rw [if_neg h31] at hst hck
  by_cases h32 : q.1 = 32
  · rw [if_pos h32] at hst hck
    exact absurd hst (fun z => am_z_i2l z)
  rw [if_neg h32] at hst hck
  by_cases h33 : q.1 = 33
  · rw [if_pos h33] at hst hck
    exact absurd hst (fun z => am_z_l2i z)
  rw [if_neg h33] at hst hck
  by_cases h34 : q.1 = 34
  · rw [if_pos h34] at hst hck
    exact absurd hst (fun z => am_z_i2c z)
  rw [if_neg h34] at hst hck
  by_cases h35 : q.1 = 35
  · rw [if_pos h35] at hst hck
    exact absurd hst (fun z => am_z_lconst z)
  rw [if_neg h35] at hst hck
  by_cases h36 : q.1 = 36
  · rw [if_pos h36] at hst hck
    exact absurd hst (fun z => am_z_ldc2 z)
  rw [if_neg h36] at hst hck
  by_cases h37 : q.1 = 37
  · rw [if_pos h37] at hst hck
    exact absurd hst (fun z => am_z_dup z)
  rw [if_neg h37] at hst hck
  by_cases h38 : q.1 = 38
  · rw [if_pos h38] at hst hck
    exact absurd hst (fun z => am_z_pop z)
  rw [if_neg h38] at hst hck
  by_cases h39 : q.1 = 39
  · rw [if_pos h39] at hst hck
    exact absurd hst (fun z => am_z_dup2 z)
  rw [if_neg h39] at hst hck
  by_cases h40 : q.1 = 40
  · rw [if_pos h40] at hst hck
    exact absurd hst (fun z => am_z_ifc z)
  rw [if_neg h40] at hst hck
  by_cases h41 : q.1 = 41
  · rw [if_pos h41] at hst hck
    exact absurd hst (fun z => am_z_icmp z)
  rw [if_neg h41] at hst hck
  by_cases h42 : q.1 = 42
  · rw [if_pos h42] at hst hck
    exact absurd hst (fun z => am_z_goto z)
  rw [if_neg h42] at hst hck
  by_cases h43 : q.1 = 43
  · rw [if_pos h43] at hst hck
    exact absurd hst (fun z => am_z_tsw z)
  rw [if_neg h43] at hst hck
  by_cases h44 : q.1 = 44
  · rw [if_pos h44] at hst hck
    exact absurd hst (fun z => am_z_getf z)
  rw [if_neg h44] at hst hck
  by_cases h45 : q.1 = 45
  · rw [if_pos h45] at hst hck
    exact absurd hst (fun z => am_z_putf z)
  rw [if_neg h45] at hst hck
  by_cases h46 : q.1 = 46
  · rw [if_pos h46] at hst hck
    exact absurd hst (fun z => am_z_putr z)
  rw [if_neg h46] at hst hck
  by_cases h47 : q.1 = 47
  · rw [if_pos h47] at hst hck
    exact absurd hst (fun z => am_z_iald z)
  rw [if_neg h47] at hst hck
  by_cases h48 : q.1 = 48
  · rw [if_pos h48] at hst hck
    exact absurd hst (fun z => am_z_iast z)
  rw [if_neg h48] at hst hck
  by_cases h49 : q.1 = 49
  · rw [if_pos h49] at hst hck
    exact absurd hst (fun z => am_z_zald z)
  rw [if_neg h49] at hst hck
  by_cases h50 : q.1 = 50
  · rw [if_pos h50] at hst hck
    exact absurd hst (fun z => am_z_zast z)
  rw [if_neg h50] at hst hck
  by_cases h51 : q.1 = 51
  · rw [if_pos h51] at hst hck
    exact absurd hst (fun z => am_z_lald z)
  rw [if_neg h51] at hst hck
  by_cases h52 : q.1 = 52
  · rw [if_pos h52] at hst hck
    exact absurd hst (fun z => am_z_last z)
  rw [if_neg h52] at hst hck
  by_cases h53 : q.1 = 53
  · rw [if_pos h53] at hst hck
    exact absurd hst (fun z => am_z_aald z)
  rw [if_neg h53] at hst hck
  by_cases h54 : q.1 = 54
  · rw [if_pos h54] at hst hck
    exact absurd hst (fun z => am_z_aast z)
  rw [if_neg h54] at hst hck
  by_cases h55 : q.1 = 55
  · rw [if_pos h55] at hst hck
    exact absurd hst (fun z => am_z_alen z)
  rw [if_neg h55] at hst hck
  by_cases h56 : q.1 = 56
  · rw [if_pos h56] at hst hck
    exact absurd hst (fun z => am_z_gets z)
  rw [if_neg h56] at hst hck
  by_cases h57 : q.1 = 57
  · rw [if_pos h57] at hst hck
    exact absurd hst (fun z => am_z_gets_of_text z)
  rw [if_neg h57] at hst hck
  by_cases h58 : q.1 = 58
  · rw [if_pos h58] at hst hck
    exact absurd hst (fun z => am_z_ldcs z)
  rw [if_neg h58] at hst hck
  by_cases h60 : q.1 = 60
  · rw [if_pos h60] at hst hck
    exact am_k_invv hML hgm C hp hck hst hm hrm hM kk
  rw [if_neg h60] at hst hck
  by_cases h61 : q.1 = 61
  · rw [if_pos h61] at hst hck
    exact am_k_invs hML hgm C hp hck hst hm hrm hM kk
  rw [if_neg h61] at hst hck
  by_cases h62 : q.1 = 62
  · rw [if_pos h62] at hst hck
    exact am_k_invi hML hgm C hp hck hst hm hrm hM kk
  rw [if_neg h62] at hst hck
  by_cases h63 : q.1 = 63
  · rw [if_pos h63] at hst hck
    exact am_k_invn hML hgm C hp hck hst hm hrm hM kk
  rw [if_neg h63] at hst hck
  by_cases h64 : q.1 = 64
  · rw [if_pos h64] at hst hck
    exact am_k_invt hML hgm C hp hck hst hm hrm hM kk
  rw [if_neg h64] at hst hck
  by_cases h65 : q.1 = 65
  · rw [if_pos h65] at hst hck
    exact absurd hst (fun z => am_z_oini z)
  rw [if_neg h65] at hst hck
  by_cases h66 : q.1 = 66
  · rw [if_pos h66] at hst hck
    exact absurd hst (fun z => am_z_new z)
  rw [if_neg h66] at hst hck
  by_cases h67 : q.1 = 67
  · rw [if_pos h67] at hst hck
    exact absurd hst (fun z => am_z_newa z)
  rw [if_neg h67] at hst hck
  by_cases h68 : q.1 = 68
  · rw [if_pos h68] at hst hck
    exact absurd hst (fun z => am_z_anew z)
  rw [if_neg h68] at hst hck
  by_cases h69 : q.1 = 69
  · rw [if_pos h69] at hst hck
    exact absurd hst (fun z => am_z_mnew z)
  rw [if_neg h69] at hst hck
  by_cases h70 : q.1 = 70
  · rw [if_pos h70] at hst hck
    exact absurd hst (fun z => am_z_acpy z)
  rw [if_neg h70] at hst hck
  by_cases h71 : q.1 = 71
  · rw [if_pos h71] at hst hck
    exact absurd hst (fun z => am_z_iret z)
  rw [if_neg h71] at hst hck
  by_cases h72 : q.1 = 72
  · rw [if_pos h72] at hst hck
    exact absurd hst (fun z => am_z_lret z)
  rw [if_neg h72] at hst hck
  by_cases h73 : q.1 = 73
  · rw [if_pos h73] at hst hck
    exact absurd hst (fun z => am_z_aret z)
  rw [if_neg h73] at hst hck
  by_cases h74 : q.1 = 74
  · rw [if_pos h74] at hst hck
    exact absurd hst (fun z => am_z_vret z)
  rw [if_neg h74] at hst hck
  cases hst
theorem am_pl_invv {m : Nat} {vs : List Value} (hck : am_c_invv G on mn cc rt fr lo P i pc q = true) (hst : am_x_invv X q i ls st S = some (.inr (.inr (m, vs, st')))) : ¬ (G m).2.2.2.2.2.2.2.2.1 = 3 := by
  have h1 : ¬ (G q.2.1).2.2.2.2.2.2.2.2.1 = 3 := by
    simp only [am_c_invv, am_mv, Bool.and_eq_true, decide_eq_true_eq, am_de_iff] at hck
    omega
  have h2 : m = q.2.1 := by
    unfold am_x_invv at hst
    repeat' split at hst
    all_goals (cases hst <;> rfl)
  rw [h2]
  exact h1
theorem am_pl_invs {m : Nat} {vs : List Value} (hck : am_c_invs G on mn cc rt fr lo P i pc q = true) (hst : am_x_invs X q i ls st S = some (.inr (.inr (m, vs, st')))) : ¬ (G m).2.2.2.2.2.2.2.2.1 = 3 := by
  have h1 : ¬ (G q.2.1).2.2.2.2.2.2.2.2.1 = 3 := by
    simp only [am_c_invs, am_ms, Bool.and_eq_true, decide_eq_true_eq, am_de_iff] at hck
    omega
  have h2 : m = q.2.1 := by
    unfold am_x_invs at hst
    repeat' split at hst
    all_goals (cases hst <;> rfl)
  rw [h2]
  exact h1
theorem am_pl_invi {m : Nat} {vs : List Value} (hck : am_c_invi G on mn cc rt fr lo P i pc q = true) (hst : am_x_invi X q i ls st S = some (.inr (.inr (m, vs, st')))) : ¬ (G m).2.2.2.2.2.2.2.2.1 = 3 := by
  have h1 : ¬ (G q.2.1).2.2.2.2.2.2.2.2.1 = 3 := by
    simp only [am_c_invi, am_mi, Bool.and_eq_true, decide_eq_true_eq, am_de_iff] at hck
    omega
  have h2 : m = q.2.1 := by
    unfold am_x_invi at hst
    repeat' split at hst
    all_goals (cases hst <;> rfl)
  rw [h2]
  exact h1
theorem am_pl_invn {m : Nat} {vs : List Value} (hck : am_c_invn G on mn cc rt fr lo P i pc q = true) (hst : am_x_invn X q i ls st S = some (.inr (.inr (m, vs, st')))) : ¬ (G m).2.2.2.2.2.2.2.2.1 = 3 := by
  have h1 : ¬ (G q.2.1).2.2.2.2.2.2.2.2.1 = 3 := by
    simp only [am_c_invn, am_mn, Bool.and_eq_true, decide_eq_true_eq, am_de_iff] at hck
    omega
  have h2 : m = q.2.1 := by
    unfold am_x_invn at hst
    repeat' split at hst
    all_goals (cases hst <;> rfl)
  rw [h2]
  exact h1
theorem am_pl_invt {m : Nat} {vs : List Value} (hck : am_c_invt G on mn cc rt fr lo P i pc q = true) (hst : am_x_invt X q i ls st S = some (.inr (.inr (m, vs, st')))) : ¬ (G m).2.2.2.2.2.2.2.2.1 = 3 := by
  have h1 : ¬ (G q.2.1).2.2.2.2.2.2.2.2.1 = 3 := by
    simp only [am_c_invt, am_mv, Bool.and_eq_true, decide_eq_true_eq, am_de_iff] at hck
    omega
  have h2 : m = q.2.1 := by
    unfold am_x_invt at hst
    repeat' split at hst
    all_goals (cases hst <;> rfl)
  rw [h2]
  exact h1
theorem am_plain {m : Nat} {vs : List Value} (hck : am_ck G on mn cc rt fr lo P i pc q = true) (hst : am_step X q i ls st S = some (.inr (.inr (m, vs, st')))) : ¬ (G m).2.2.2.2.2.2.2.2.1 = 3 := by
  unfold am_step at hst
  unfold am_ck at hck
  by_cases h0 : q.1 = 0
  · rw [if_pos h0] at hst hck
    exact absurd hst (fun z => am_z_iconst z)
  rw [if_neg h0] at hst hck
  by_cases h1 : q.1 = 1
  · rw [if_pos h1] at hst hck
    exact absurd hst (fun z => am_z_bipush z)
  rw [if_neg h1] at hst hck
  by_cases h2 : q.1 = 2
  · rw [if_pos h2] at hst hck
    exact absurd hst (fun z => am_z_sipush z)
  rw [if_neg h2] at hst hck
  by_cases h3 : q.1 = 3
  · rw [if_pos h3] at hst hck
    exact absurd hst (fun z => am_z_ldc z)
  rw [if_neg h3] at hst hck
  by_cases h4 : q.1 = 4
  · rw [if_pos h4] at hst hck
    exact absurd hst (fun z => am_z_ldcw z)
  rw [if_neg h4] at hst hck
  by_cases h5 : q.1 = 5
  · rw [if_pos h5] at hst hck
    exact absurd hst (fun z => am_z_iload z)
  rw [if_neg h5] at hst hck
  by_cases h6 : q.1 = 6
  · rw [if_pos h6] at hst hck
    exact absurd hst (fun z => am_z_aload z)
  rw [if_neg h6] at hst hck
  by_cases h7 : q.1 = 7
  · rw [if_pos h7] at hst hck
    exact absurd hst (fun z => am_z_lload z)
  rw [if_neg h7] at hst hck
  by_cases h8 : q.1 = 8
  · rw [if_pos h8] at hst hck
    exact absurd hst (fun z => am_z_istore z)
  rw [if_neg h8] at hst hck
  by_cases h9 : q.1 = 9
  · rw [if_pos h9] at hst hck
    exact absurd hst (fun z => am_z_astore z)
  rw [if_neg h9] at hst hck
  by_cases h10 : q.1 = 10
  · rw [if_pos h10] at hst hck
    exact absurd hst (fun z => am_z_lstore z)
  rw [if_neg h10] at hst hck
  by_cases h11 : q.1 = 11
  · rw [if_pos h11] at hst hck
    exact absurd hst (fun z => am_z_iinc z)
  rw [if_neg h11] at hst hck
  by_cases h12 : q.1 = 12
  · rw [if_pos h12] at hst hck
    exact absurd hst (fun z => am_z_iadd z)
  rw [if_neg h12] at hst hck
  by_cases h13 : q.1 = 13
  · rw [if_pos h13] at hst hck
    exact absurd hst (fun z => am_z_isub z)
  rw [if_neg h13] at hst hck
  by_cases h14 : q.1 = 14
  · rw [if_pos h14] at hst hck
    exact absurd hst (fun z => am_z_imul z)
  rw [if_neg h14] at hst hck
  by_cases h15 : q.1 = 15
  · rw [if_pos h15] at hst hck
    exact absurd hst (fun z => am_z_iand z)
  rw [if_neg h15] at hst hck
  by_cases h16 : q.1 = 16
  · rw [if_pos h16] at hst hck
    exact absurd hst (fun z => am_z_ior z)
  rw [if_neg h16] at hst hck
  by_cases h17 : q.1 = 17
  · rw [if_pos h17] at hst hck
    exact absurd hst (fun z => am_z_ixor z)
  rw [if_neg h17] at hst hck
  by_cases h18 : q.1 = 18
  · rw [if_pos h18] at hst hck
    exact absurd hst (fun z => am_z_ishl z)
  rw [if_neg h18] at hst hck
  by_cases h19 : q.1 = 19
  · rw [if_pos h19] at hst hck
    exact absurd hst (fun z => am_z_ishr z)
  rw [if_neg h19] at hst hck
  by_cases h20 : q.1 = 20
  · rw [if_pos h20] at hst hck
    exact absurd hst (fun z => am_z_iushr z)
  rw [if_neg h20] at hst hck
  by_cases h21 : q.1 = 21
  · rw [if_pos h21] at hst hck
    exact absurd hst (fun z => am_z_ineg z)
  rw [if_neg h21] at hst hck
  by_cases h22 : q.1 = 22
  · rw [if_pos h22] at hst hck
    exact absurd hst (fun z => am_z_idiv z)
  rw [if_neg h22] at hst hck
  by_cases h23 : q.1 = 23
  · rw [if_pos h23] at hst hck
    exact absurd hst (fun z => am_z_irem z)
  rw [if_neg h23] at hst hck
  by_cases h24 : q.1 = 24
  · rw [if_pos h24] at hst hck
    exact absurd hst (fun z => am_z_ladd z)
  rw [if_neg h24] at hst hck
  by_cases h25 : q.1 = 25
  · rw [if_pos h25] at hst hck
    exact absurd hst (fun z => am_z_lsub z)
  rw [if_neg h25] at hst hck
  by_cases h26 : q.1 = 26
  · rw [if_pos h26] at hst hck
    exact absurd hst (fun z => am_z_lmul z)
  rw [if_neg h26] at hst hck
  by_cases h27 : q.1 = 27
  · rw [if_pos h27] at hst hck
    exact absurd hst (fun z => am_z_land z)
  rw [if_neg h27] at hst hck
  by_cases h28 : q.1 = 28
  · rw [if_pos h28] at hst hck
    exact absurd hst (fun z => am_z_lor z)
  rw [if_neg h28] at hst hck
  by_cases h29 : q.1 = 29
  · rw [if_pos h29] at hst hck
    exact absurd hst (fun z => am_z_lshl z)
  rw [if_neg h29] at hst hck
  by_cases h30 : q.1 = 30
  · rw [if_pos h30] at hst hck
    exact absurd hst (fun z => am_z_lushr z)
  rw [if_neg h30] at hst hck
  by_cases h31 : q.1 = 31
  · rw [if_pos h31] at hst hck
    exact absurd hst (fun z => am_z_lrem z)
  rw [if_neg h31] at hst hck
  by_cases h32 : q.1 = 32
  · rw [if_pos h32] at hst hck
    exact absurd hst (fun z => am_z_i2l z)
  rw [if_neg h32] at hst hck
  by_cases h33 : q.1 = 33
  · rw [if_pos h33] at hst hck
    exact absurd hst (fun z => am_z_l2i z)
  rw [if_neg h33] at hst hck
  by_cases h34 : q.1 = 34
  · rw [if_pos h34] at hst hck
    exact absurd hst (fun z => am_z_i2c z)
  rw [if_neg h34] at hst hck
  by_cases h35 : q.1 = 35
  · rw [if_pos h35] at hst hck
    exact absurd hst (fun z => am_z_lconst z)
  rw [if_neg h35] at hst hck
  by_cases h36 : q.1 = 36
  · rw [if_pos h36] at hst hck
    exact absurd hst (fun z => am_z_ldc2 z)
  rw [if_neg h36] at hst hck
  by_cases h37 : q.1 = 37
  · rw [if_pos h37] at hst hck
    exact absurd hst (fun z => am_z_dup z)
  rw [if_neg h37] at hst hck
  by_cases h38 : q.1 = 38
  · rw [if_pos h38] at hst hck
    exact absurd hst (fun z => am_z_pop z)
  rw [if_neg h38] at hst hck
  by_cases h39 : q.1 = 39
  · rw [if_pos h39] at hst hck
    exact absurd hst (fun z => am_z_dup2 z)
  rw [if_neg h39] at hst hck
  by_cases h40 : q.1 = 40
  · rw [if_pos h40] at hst hck
    exact absurd hst (fun z => am_z_ifc z)
  rw [if_neg h40] at hst hck
  by_cases h41 : q.1 = 41
  · rw [if_pos h41] at hst hck
    exact absurd hst (fun z => am_z_icmp z)
  rw [if_neg h41] at hst hck
  by_cases h42 : q.1 = 42
  · rw [if_pos h42] at hst hck
    exact absurd hst (fun z => am_z_goto z)
  rw [if_neg h42] at hst hck
  by_cases h43 : q.1 = 43
  · rw [if_pos h43] at hst hck
    exact absurd hst (fun z => am_z_tsw z)
  rw [if_neg h43] at hst hck
  by_cases h44 : q.1 = 44
  · rw [if_pos h44] at hst hck
    exact absurd hst (fun z => am_z_getf z)
  rw [if_neg h44] at hst hck
  by_cases h45 : q.1 = 45
  · rw [if_pos h45] at hst hck
    exact absurd hst (fun z => am_z_putf z)
  rw [if_neg h45] at hst hck
  by_cases h46 : q.1 = 46
  · rw [if_pos h46] at hst hck
    exact absurd hst (fun z => am_z_putr z)
  rw [if_neg h46] at hst hck
  by_cases h47 : q.1 = 47
  · rw [if_pos h47] at hst hck
    exact absurd hst (fun z => am_z_iald z)
  rw [if_neg h47] at hst hck
  by_cases h48 : q.1 = 48
  · rw [if_pos h48] at hst hck
    exact absurd hst (fun z => am_z_iast z)
  rw [if_neg h48] at hst hck
  by_cases h49 : q.1 = 49
  · rw [if_pos h49] at hst hck
    exact absurd hst (fun z => am_z_zald z)
  rw [if_neg h49] at hst hck
  by_cases h50 : q.1 = 50
  · rw [if_pos h50] at hst hck
    exact absurd hst (fun z => am_z_zast z)
  rw [if_neg h50] at hst hck
  by_cases h51 : q.1 = 51
  · rw [if_pos h51] at hst hck
    exact absurd hst (fun z => am_z_lald z)
  rw [if_neg h51] at hst hck
  by_cases h52 : q.1 = 52
  · rw [if_pos h52] at hst hck
    exact absurd hst (fun z => am_z_last z)
  rw [if_neg h52] at hst hck
  by_cases h53 : q.1 = 53
  · rw [if_pos h53] at hst hck
    exact absurd hst (fun z => am_z_aald z)
  rw [if_neg h53] at hst hck
  by_cases h54 : q.1 = 54
  · rw [if_pos h54] at hst hck
    exact absurd hst (fun z => am_z_aast z)
  rw [if_neg h54] at hst hck
  by_cases h55 : q.1 = 55
  · rw [if_pos h55] at hst hck
    exact absurd hst (fun z => am_z_alen z)
  rw [if_neg h55] at hst hck
  by_cases h56 : q.1 = 56
  · rw [if_pos h56] at hst hck
    exact absurd hst (fun z => am_z_gets z)
  rw [if_neg h56] at hst hck
  by_cases h57 : q.1 = 57
  · rw [if_pos h57] at hst hck
    exact absurd hst (fun z => am_z_gets_of_text z)
  rw [if_neg h57] at hst hck
  by_cases h58 : q.1 = 58
  · rw [if_pos h58] at hst hck
    exact absurd hst (fun z => am_z_ldcs z)
  rw [if_neg h58] at hst hck
  by_cases h60 : q.1 = 60
  · rw [if_pos h60] at hst hck
    exact am_pl_invv hck hst
  rw [if_neg h60] at hst hck
  by_cases h61 : q.1 = 61
  · rw [if_pos h61] at hst hck
    exact am_pl_invs hck hst
  rw [if_neg h61] at hst hck
  by_cases h62 : q.1 = 62
  · rw [if_pos h62] at hst hck
    exact am_pl_invi hck hst
  rw [if_neg h62] at hst hck
  by_cases h63 : q.1 = 63
  · rw [if_pos h63] at hst hck
    exact am_pl_invn hck hst
  rw [if_neg h63] at hst hck
  by_cases h64 : q.1 = 64
  · rw [if_pos h64] at hst hck
    exact am_pl_invt hck hst
  rw [if_neg h64] at hst hck
  by_cases h65 : q.1 = 65
  · rw [if_pos h65] at hst hck
    exact absurd hst (fun z => am_z_oini z)
  rw [if_neg h65] at hst hck
  by_cases h66 : q.1 = 66
  · rw [if_pos h66] at hst hck
    exact absurd hst (fun z => am_z_new z)
  rw [if_neg h66] at hst hck
  by_cases h67 : q.1 = 67
  · rw [if_pos h67] at hst hck
    exact absurd hst (fun z => am_z_newa z)
  rw [if_neg h67] at hst hck
  by_cases h68 : q.1 = 68
  · rw [if_pos h68] at hst hck
    exact absurd hst (fun z => am_z_anew z)
  rw [if_neg h68] at hst hck
  by_cases h69 : q.1 = 69
  · rw [if_pos h69] at hst hck
    exact absurd hst (fun z => am_z_mnew z)
  rw [if_neg h69] at hst hck
  by_cases h70 : q.1 = 70
  · rw [if_pos h70] at hst hck
    exact absurd hst (fun z => am_z_acpy z)
  rw [if_neg h70] at hst hck
  by_cases h71 : q.1 = 71
  · rw [if_pos h71] at hst hck
    exact absurd hst (fun z => am_z_iret z)
  rw [if_neg h71] at hst hck
  by_cases h72 : q.1 = 72
  · rw [if_pos h72] at hst hck
    exact absurd hst (fun z => am_z_lret z)
  rw [if_neg h72] at hst hck
  by_cases h73 : q.1 = 73
  · rw [if_pos h73] at hst hck
    exact absurd hst (fun z => am_z_aret z)
  rw [if_neg h73] at hst hck
  by_cases h74 : q.1 = 74
  · rw [if_pos h74] at hst hck
    exact absurd hst (fun z => am_z_vret z)
  rw [if_neg h74] at hst hck
  cases hst
theorem am_rets {b0' : Nat} {H : Heap} {locs : List Loc} {real : Array Slot} {v : Option Value} (C : am_Cx X p R s mid args meth c D cid b0 n0 sv (am_rn on) mn cc fr lo nL) (hp : P[i]? = some (pc, q)) (hck : am_ck G on mn cc rt fr lo P i pc q = true) (hr : meth.sig.returnType = rt) (h71 : 71 ≤ q.1) (h74 : q.1 ≤ 74) (hst : am_step X q i ls v.toList S = some (.inr (.inl (v, S)))) (hP : va_P D vwCl (am_ws b0 cid S) H) (hS : va_S (am_A b0) s.heap H locs) : W p l e R s mid args below meth c H locs (S.1.1 - n0) (S.1.2 - t0) (MQ below (am_Qc D cid b0 sv v S) args s (S.1.1 - n0) (S.1.2 - t0) (am_A b0)) (F0 mid pc real (v.toList.map (am_v b0 sv))) := by
  obtain ⟨hx, hb, hml, hlk, hmn, hown, hts, hK, hO, hb0, hfr, hlo⟩ := C
  have hq : ∀ t : State, t.heap = H → s.WarmedH t.vm → am_Qc D cid b0 sv v S args s (.returned (v.map (am_v b0 sv))) t := fun t htt _ => ⟨rfl, by rw [htt]; exact hP, hS.F htt⟩
  unfold am_step at hst
  unfold am_ck at hck
  rw [if_neg (by omega : ¬ q.1 = 0)] at hst hck
  rw [if_neg (by omega : ¬ q.1 = 1)] at hst hck
  rw [if_neg (by omega : ¬ q.1 = 2)] at hst hck
  rw [if_neg (by omega : ¬ q.1 = 3)] at hst hck
  rw [if_neg (by omega : ¬ q.1 = 4)] at hst hck
  rw [if_neg (by omega : ¬ q.1 = 5)] at hst hck
  rw [if_neg (by omega : ¬ q.1 = 6)] at hst hck
  rw [if_neg (by omega : ¬ q.1 = 7)] at hst hck
  rw [if_neg (by omega : ¬ q.1 = 8)] at hst hck
  rw [if_neg (by omega : ¬ q.1 = 9)] at hst hck
  rw [if_neg (by omega : ¬ q.1 = 10)] at hst hck
  rw [if_neg (by omega : ¬ q.1 = 11)] at hst hck
  rw [if_neg (by omega : ¬ q.1 = 12)] at hst hck
  rw [if_neg (by omega : ¬ q.1 = 13)] at hst hck
  rw [if_neg (by omega : ¬ q.1 = 14)] at hst hck
  rw [if_neg (by omega : ¬ q.1 = 15)] at hst hck
  rw [if_neg (by omega : ¬ q.1 = 16)] at hst hck
  rw [if_neg (by omega : ¬ q.1 = 17)] at hst hck
  rw [if_neg (by omega : ¬ q.1 = 18)] at hst hck
  rw [if_neg (by omega : ¬ q.1 = 19)] at hst hck
  rw [if_neg (by omega : ¬ q.1 = 20)] at hst hck
  rw [if_neg (by omega : ¬ q.1 = 21)] at hst hck
  rw [if_neg (by omega : ¬ q.1 = 22)] at hst hck
  rw [if_neg (by omega : ¬ q.1 = 23)] at hst hck
  rw [if_neg (by omega : ¬ q.1 = 24)] at hst hck
  rw [if_neg (by omega : ¬ q.1 = 25)] at hst hck
  rw [if_neg (by omega : ¬ q.1 = 26)] at hst hck
  rw [if_neg (by omega : ¬ q.1 = 27)] at hst hck
  rw [if_neg (by omega : ¬ q.1 = 28)] at hst hck
  rw [if_neg (by omega : ¬ q.1 = 29)] at hst hck
  rw [if_neg (by omega : ¬ q.1 = 30)] at hst hck
  rw [if_neg (by omega : ¬ q.1 = 31)] at hst hck
  rw [if_neg (by omega : ¬ q.1 = 32)] at hst hck
  rw [if_neg (by omega : ¬ q.1 = 33)] at hst hck
  rw [if_neg (by omega : ¬ q.1 = 34)] at hst hck
  rw [if_neg (by omega : ¬ q.1 = 35)] at hst hck
  rw [if_neg (by omega : ¬ q.1 = 36)] at hst hck
  rw [if_neg (by omega : ¬ q.1 = 37)] at hst hck
  rw [if_neg (by omega : ¬ q.1 = 38)] at hst hck
  rw [if_neg (by omega : ¬ q.1 = 39)] at hst hck
  rw [if_neg (by omega : ¬ q.1 = 40)] at hst hck
  rw [if_neg (by omega : ¬ q.1 = 41)] at hst hck
  rw [if_neg (by omega : ¬ q.1 = 42)] at hst hck
  rw [if_neg (by omega : ¬ q.1 = 43)] at hst hck
  rw [if_neg (by omega : ¬ q.1 = 44)] at hst hck
  rw [if_neg (by omega : ¬ q.1 = 45)] at hst hck
  rw [if_neg (by omega : ¬ q.1 = 46)] at hst hck
  rw [if_neg (by omega : ¬ q.1 = 47)] at hst hck
  rw [if_neg (by omega : ¬ q.1 = 48)] at hst hck
  rw [if_neg (by omega : ¬ q.1 = 49)] at hst hck
  rw [if_neg (by omega : ¬ q.1 = 50)] at hst hck
  rw [if_neg (by omega : ¬ q.1 = 51)] at hst hck
  rw [if_neg (by omega : ¬ q.1 = 52)] at hst hck
  rw [if_neg (by omega : ¬ q.1 = 53)] at hst hck
  rw [if_neg (by omega : ¬ q.1 = 54)] at hst hck
  rw [if_neg (by omega : ¬ q.1 = 55)] at hst hck
  rw [if_neg (by omega : ¬ q.1 = 56)] at hst hck
  rw [if_neg (by omega : ¬ q.1 = 57)] at hst hck
  rw [if_neg (by omega : ¬ q.1 = 58)] at hst hck
  rw [if_neg (by omega : ¬ q.1 = 60)] at hst hck
  rw [if_neg (by omega : ¬ q.1 = 61)] at hst hck
  rw [if_neg (by omega : ¬ q.1 = 62)] at hst hck
  rw [if_neg (by omega : ¬ q.1 = 63)] at hst hck
  rw [if_neg (by omega : ¬ q.1 = 64)] at hst hck
  rw [if_neg (by omega : ¬ q.1 = 65)] at hst hck
  rw [if_neg (by omega : ¬ q.1 = 66)] at hst hck
  rw [if_neg (by omega : ¬ q.1 = 67)] at hst hck
  rw [if_neg (by omega : ¬ q.1 = 68)] at hst hck
  rw [if_neg (by omega : ¬ q.1 = 69)] at hst hck
  rw [if_neg (by omega : ¬ q.1 = 70)] at hst hck
  by_cases h71 : q.1 = 71
  · rw [if_pos h71] at hst hck
    simp only [am_c_iret, Bool.and_eq_true, decide_eq_true_eq, beq_iff_eq, am_de_iff] at hck
    unfold am_x_iret at hst
    split at hst
    · rename_i x hv
      split at hst
      · rename_i hnar
        have hv2 : v = some (.int x) := by
          simp only [Option.some.injEq, Sum.inr.injEq, Sum.inl.injEq, Prod.mk.injEq] at hst
          exact hst.1.symm
        subst hv2
        exact W.zret hx hb (hr.trans hck.2) hnar hq hS.2.2 hck.1 (hlocks := hlk)
      · cases hst
    · cases hst
  rw [if_neg h71] at hst hck
  by_cases h72 : q.1 = 72
  · rw [if_pos h72] at hst hck
    simp only [am_c_lret, Bool.and_eq_true, decide_eq_true_eq, beq_iff_eq, am_de_iff] at hck
    unfold am_x_lret at hst
    split at hst
    · rename_i x hv
      have hv2 : v = some (.long x) := by
        simp only [Option.some.injEq, Sum.inr.injEq, Sum.inl.injEq, Prod.mk.injEq] at hst
        exact hst.1.symm
      subst hv2
      exact W.lret hx hb (hr.trans hck.2) hq hS.2.2 hck.1 (hlocks := hlk)
    · cases hst
  rw [if_neg h72] at hst hck
  by_cases h73 : q.1 = 73
  · rw [if_pos h73] at hst hck
    simp only [am_c_aret, Bool.and_eq_true, decide_eq_true_eq, beq_iff_eq, am_de_iff] at hck
    unfold am_x_aret at hst
    split at hst
    · rename_i x hv
      have hv2 : v = some (.ref x) := by
        simp only [Option.some.injEq, Sum.inr.injEq, Sum.inl.injEq, Prod.mk.injEq] at hst
        exact hst.1.symm
      subst hv2
      exact W.aret hx hb (hr.trans hck.2) (Or.inl ⟨_, rfl⟩) (Or.inr ⟨_, rfl⟩) hq hS.2.2 hck.1 (hlocks := hlk)
    · cases hst
  rw [if_neg h73] at hst hck
  by_cases h74 : q.1 = 74
  · rw [if_pos h74] at hst hck
    simp only [am_c_vret, Bool.and_eq_true, decide_eq_true_eq, beq_iff_eq, am_de_iff] at hck
    unfold am_x_vret at hst
    split at hst
    · rename_i hv
      have hv2 : v = none := by
        simp only [Option.some.injEq, Sum.inr.injEq, Sum.inl.injEq, Prod.mk.injEq] at hst
        exact hst.1.symm
      subst hv2
      exact W.vret hx hb (hr.trans hck.2) hq hS.2.2 hck.1 (hlocks := hlk)
    · cases hst
  rw [if_neg h74] at hst hck
  cases hst
end AMW
/-- THE RUN: what the abstract machine answers, the machine comes to -/
theorem am_sim {G : Nat → am_M} {X : am_X} {l : Launch} {D : va_G} {cid : Nat → ClassId} {b0 : Nat} {sv : Nat → Option Nat} (hG : ∀ m, am_ok G (G m)) (hML : ∀ (a b k : Nat), (a, b, k) ∈ am_ML → Cond.methodLink (am_rn a) b (G k).1 ∈ am_w) : ∀ (f : Nat) (g : am_M), am_ok G g → ∀ {p : Program} {e : Env} {R : Room} {s : State} {mid : MethodId} {args : Array Value} {below : List Frame} {meth : Method} {c : Code} {Q : State → Prop} {n0 t0 : Nat}, am_Cx X p R s mid args meth c D cid b0 n0 sv (am_rn g.2.2.2.2.2.2.2.2.2.1) g.1.name g.2.1 g.2.2.2.2.2.1 g.2.2.2.2.2.2.1 g.2.2.1 →
    ∀ (i : Nat) (ls st : List Value) (S : am_S) (v : Option Value) (S' : am_S), am_run G X f g.2.2.2.2.1 i ls st S = some (v, S') → (S'.1.1 - n0 ≤ R.cells ∧ S'.1.2 - t0 ≤ R.slots) →
    (∀ (i' : Nat) (ls' : List Value) (pc : Nat) (q : am_I), g.2.2.2.2.1[i']? = some (pc, q) → 71 ≤ q.1 → q.1 ≤ 74 → am_step X q i' ls' v.toList S' = some (.inr (.inl (v, S'))) → am_At p l e R s mid args below meth c Q D cid b0 n0 t0 sv g.2.2.1 g.2.2.2.2.1 i' ls' v.toList S') →
    am_At p l e R s mid args below meth c Q D cid b0 n0 t0 sv g.2.2.1 g.2.2.2.2.1 i ls st S := by
  intro f
  induction f with
  | zero => intro g hg p e R s mid args below meth c Q n0 t0 C i ls st S v S' h; simp [am_run] at h
  | succ f ih =>
    intro g hg p e R s mid args below meth c Q n0 t0 C i ls st S v S' h hrm kk
    unfold am_run at h
    split at h
    · cases h
    · rename_i r hr
      obtain ⟨pc, q⟩ := r
      have hck := hg.1 i pc q hr
      split at h
      · cases h
      · rename_i j ls2 st2 S2 hs
        have hmo := am_run_mono _ _ _ _ _ _ _ _ h
        refine am_one C hr hck hs (by omega) ?_
        exact ih g hg C j ls2 st2 S2 v S' h hrm kk
      · rename_i r2 hs
        obtain ⟨e1, e2, e3, e4⟩ := am_ret_of hs
        cases h
        have e5 : S' = S := e1
        subst e5
        have e6 : st = v.toList := e2
        subst e6
        exact kk i ls pc q hr e3 e4 hs
      · rename_i m vs st2 hs
        split at h
        · rename_i hlen
          split at h
          · cases h
          · rename_i v2 S2 hc
            have hm1 := am_run_mono _ _ _ _ _ _ _ _ hc
            have hm2 := am_run_mono _ _ _ _ _ _ _ _ h
            have hP0 : (∃ q0, (G m).2.2.2.2.1[0]? = some (0, q0)) ∧ am_gm (G m) = true := by
              cases hP0 : (G m).2.2.2.2.1[0]? with
              | none =>
                cases f with
                | zero => simp [am_run] at hc
                | succ f => simp [am_run, hP0] at hc
              | some x =>
                obtain ⟨a, b⟩ := x
                have h9 := (hG m).2 a b hP0
                obtain ⟨h9, h10⟩ := h9
                subst h9
                exact ⟨⟨b, rfl⟩, h10⟩
            obtain ⟨⟨q0, hq0⟩, hgm⟩ := hP0
            have hk3 := am_plain hck hs
            refine am_call (S' := S2) hML hgm C hr hck hs hm1 (by omega) ?_ (ih g hg C (i + 1) ls (v2.toList ++ st2) S2 v S' h hrm kk)
            refine va_MetF (cc := (G m).2.1) (maxL := (G m).2.2.1) (ret := (G m).2.2.2.1) (am_gm_of hgm hk3).1.2.2.2.2.1 rfl ?_
            intro p2 e2 s2 m2 args2 below2 meth2 c2 s3 B hml hv
            obtain ⟨rfl, hz, hP, hK, hO⟩ := hv
            have hts := atoms_spec (ws := am_wm (G m)) B.pre
            have hown : s2.vm.findClass (am_rn (G m).2.2.2.2.2.2.2.2.2.1) = some m2.cls := by rw [am_gm_cn hgm]; exact findClass_of_methodNamed B.named
            have C2 : am_Cx X p2 (headSpec (am_wm (G m)) (am_rm (G m) S S2)).room s2 m2 (vs.map (am_v b0 sv)).toArray meth2 c2 D cid b0 S.1.1 sv (am_rn (G m).2.2.2.2.2.2.2.2.2.1) (G m).1.name (G m).2.1 (G m).2.2.2.2.2.1 (G m).2.2.2.2.2.2.1 (G m).2.2.1 :=
              ⟨B.exec, B.bytes, hml, B.notSynchronized, (name_of_methodNamed B.named B.method).1, hown, fun w hw => hts w (List.mem_cons_of_mem _ hw), hK, hO, hz, Nat.le_refl _, Nat.le_refl _⟩
            have hle : (lg_sl (vs.map (am_v b0 sv))).length ≤ (G m).2.2.1 := by
              rw [am_slen]
              have : (am_ini (G m) vs).length = (G m).2.2.1 := hlen
              simp only [am_ini, List.length_append, List.length_replicate] at this
              omega
            rw [lg_entry_eq]
            have hl := lv_entry (vs.map (am_v b0 sv)) hle
            generalize (lg_sl (vs.map (am_v b0 sv)) ++ List.replicate ((G m).2.2.1 - (lg_sl (vs.map (am_v b0 sv))).length) Slot.unset).toArray = real at hl ⊢
            have hL : am_L b0 sv real (G m).2.2.1 (am_ini (G m) vs) := by
              refine ⟨hl.1, hl.2.1, by rw [hlen]; exact Nat.le_refl _, fun i v hi hv => ?_⟩
              have hi2 : (vs.flatMap (fun v => if v.category = 2 then [v, Value.null] else [v]))[i]? = some v := by
                unfold am_ini at hi
                by_cases hlt : i < (vs.flatMap (fun v => if v.category = 2 then [v, Value.null] else [v])).length
                · rw [List.getElem?_append_left hlt] at hi
                  exact hi
                · rw [List.getElem?_append_right (by omega)] at hi
                  have := List.mem_replicate.mp (List.mem_of_getElem? hi)
                  exact absurd this.2 hv
              have := am_args (b0 := b0) (sv := sv) vs 0 i v hi2 hv
              rw [Nat.zero_add] at this
              exact hl.2.2 _ this
            have K := ih (G m) (hG m) (Q := MQ below2 (am_Qc D cid b0 sv v2 S2) (vs.map (am_v b0 sv)).toArray s2 (S2.1.1 - S.1.1) (S2.1.2 - S.1.2) (am_A b0)) (e := e2) (below := below2) (n0 := S.1.1) (t0 := S.1.2) C2 0 (am_ini (G m) vs) [] S v2 S2 hc ⟨Nat.le_refl _, Nat.le_refl _⟩ (fun i' ls' pc' q2 hp2 h71 h74 hst2 _ _ pc3 q3 H3 locs3 real3 hp3 hP3 hS3 _ => by
              rw [hp2] at hp3
              cases hp3
              exact am_rets (b0' := 0) C2 hp2 ((hG m).1 _ _ _ hp2) B.returns h71 h74 hst2 hP3 hS3)
            have K2 := K (Nat.le_refl _) (Nat.le_refl _) 0 q0 s2.heap [] real hq0 hP va_S.rf hL
            rw [Nat.sub_self, Nat.sub_self] at K2
            exact K2
        · cases h
