section AMS
variable {G : Nat → am_M} {X : am_X} {p : Program} {l : Launch} {e : Env} {R : Room} {s : State} {mid : MethodId} {args : Array Value} {below : List Frame} {meth : Method} {c : Code} {Q : State → Prop} {D : va_G} {cid : Nat → ClassId} {b0 n0 t0 : Nat} {sv : Nat → Option Nat} {on : Nat} {mn : String} {cc : ByteArray} {rt : Option FieldType} {fr lo nL : Nat} {P : List (Nat × am_I)} {i j pc : Nat} {q : am_I} {ls st ls' st' : List Value} {S S' : am_S}
set_option maxHeartbeats 1000000 in
theorem am_s_iadd (C : am_Cx X p R s mid args meth c D cid b0 n0 sv (am_rn on) mn cc fr lo nL) (hp : P[i]? = some (pc, q)) (hck : am_c_iadd G on mn cc rt fr lo P i pc q = true) (hst : am_x_iadd X q i ls st S = some (.inl (j, ls', st', S'))) (kk : am_At p l e R s mid args below meth c Q D cid b0 n0 t0 sv nL P j ls' st' S') : am_At p l e R s mid args below meth c Q D cid b0 n0 t0 sv nL P i ls st S := by
  intro hn ht pc2 q2 H locs real hp2 hP hS hL
  obtain ⟨rfl, rfl⟩ : pc = pc2 ∧ q = q2 := by
    rw [hp] at hp2
    cases hp2
    exact ⟨rfl, rfl⟩
  obtain ⟨hx, hb, hml, hlk, hmn, hown, hts, hK, hO, hb0, hfr, hlo⟩ := C
  simp only [am_c_iadd, Bool.and_eq_true, decide_eq_true_eq, am_de_iff] at hck
  obtain ⟨hd, hnx⟩ := hck
  obtain ⟨q', hq'⟩ := am_nx_of hnx
  unfold am_x_iadd at hst
  split at hst
  · simp only [am_go, Option.some.injEq, Sum.inl.injEq, Prod.mk.injEq] at hst
    obtain ⟨rfl, rfl, rfl, rfl⟩ := hst
    have K := kk hn ht _ _ H locs real hq' hP hS hL
    simp only [List.map_cons, am_v] at K ⊢
    exact lv_iadd hx hb hd K
  · cases hst

set_option maxHeartbeats 1000000 in
theorem am_s_isub (C : am_Cx X p R s mid args meth c D cid b0 n0 sv (am_rn on) mn cc fr lo nL) (hp : P[i]? = some (pc, q)) (hck : am_c_isub G on mn cc rt fr lo P i pc q = true) (hst : am_x_isub X q i ls st S = some (.inl (j, ls', st', S'))) (kk : am_At p l e R s mid args below meth c Q D cid b0 n0 t0 sv nL P j ls' st' S') : am_At p l e R s mid args below meth c Q D cid b0 n0 t0 sv nL P i ls st S := by
  intro hn ht pc2 q2 H locs real hp2 hP hS hL
  obtain ⟨rfl, rfl⟩ : pc = pc2 ∧ q = q2 := by
    rw [hp] at hp2
    cases hp2
    exact ⟨rfl, rfl⟩
  obtain ⟨hx, hb, hml, hlk, hmn, hown, hts, hK, hO, hb0, hfr, hlo⟩ := C
  simp only [am_c_isub, Bool.and_eq_true, decide_eq_true_eq, am_de_iff] at hck
  obtain ⟨hd, hnx⟩ := hck
  obtain ⟨q', hq'⟩ := am_nx_of hnx
  unfold am_x_isub at hst
  split at hst
  · simp only [am_go, Option.some.injEq, Sum.inl.injEq, Prod.mk.injEq] at hst
    obtain ⟨rfl, rfl, rfl, rfl⟩ := hst
    have K := kk hn ht _ _ H locs real hq' hP hS hL
    simp only [List.map_cons, am_v] at K ⊢
    exact lv_isub hx hb hd K
  · cases hst

set_option maxHeartbeats 1000000 in
theorem am_s_imul (C : am_Cx X p R s mid args meth c D cid b0 n0 sv (am_rn on) mn cc fr lo nL) (hp : P[i]? = some (pc, q)) (hck : am_c_imul G on mn cc rt fr lo P i pc q = true) (hst : am_x_imul X q i ls st S = some (.inl (j, ls', st', S'))) (kk : am_At p l e R s mid args below meth c Q D cid b0 n0 t0 sv nL P j ls' st' S') : am_At p l e R s mid args below meth c Q D cid b0 n0 t0 sv nL P i ls st S := by
  intro hn ht pc2 q2 H locs real hp2 hP hS hL
  obtain ⟨rfl, rfl⟩ : pc = pc2 ∧ q = q2 := by
    rw [hp] at hp2
    cases hp2
    exact ⟨rfl, rfl⟩
  obtain ⟨hx, hb, hml, hlk, hmn, hown, hts, hK, hO, hb0, hfr, hlo⟩ := C
  simp only [am_c_imul, Bool.and_eq_true, decide_eq_true_eq, am_de_iff] at hck
  obtain ⟨hd, hnx⟩ := hck
  obtain ⟨q', hq'⟩ := am_nx_of hnx
  unfold am_x_imul at hst
  split at hst
  · simp only [am_go, Option.some.injEq, Sum.inl.injEq, Prod.mk.injEq] at hst
    obtain ⟨rfl, rfl, rfl, rfl⟩ := hst
    have K := kk hn ht _ _ H locs real hq' hP hS hL
    simp only [List.map_cons, am_v] at K ⊢
    exact lv_imul hx hb hd K
  · cases hst

set_option maxHeartbeats 1000000 in
theorem am_s_iand (C : am_Cx X p R s mid args meth c D cid b0 n0 sv (am_rn on) mn cc fr lo nL) (hp : P[i]? = some (pc, q)) (hck : am_c_iand G on mn cc rt fr lo P i pc q = true) (hst : am_x_iand X q i ls st S = some (.inl (j, ls', st', S'))) (kk : am_At p l e R s mid args below meth c Q D cid b0 n0 t0 sv nL P j ls' st' S') : am_At p l e R s mid args below meth c Q D cid b0 n0 t0 sv nL P i ls st S := by
  intro hn ht pc2 q2 H locs real hp2 hP hS hL
  obtain ⟨rfl, rfl⟩ : pc = pc2 ∧ q = q2 := by
    rw [hp] at hp2
    cases hp2
    exact ⟨rfl, rfl⟩
  obtain ⟨hx, hb, hml, hlk, hmn, hown, hts, hK, hO, hb0, hfr, hlo⟩ := C
  simp only [am_c_iand, Bool.and_eq_true, decide_eq_true_eq, am_de_iff] at hck
  obtain ⟨hd, hnx⟩ := hck
  obtain ⟨q', hq'⟩ := am_nx_of hnx
  unfold am_x_iand at hst
  split at hst
  · simp only [am_go, Option.some.injEq, Sum.inl.injEq, Prod.mk.injEq] at hst
    obtain ⟨rfl, rfl, rfl, rfl⟩ := hst
    have K := kk hn ht _ _ H locs real hq' hP hS hL
    simp only [List.map_cons, am_v] at K ⊢
    exact lv_iand hx hb hd K
  · cases hst

set_option maxHeartbeats 1000000 in
theorem am_s_ior (C : am_Cx X p R s mid args meth c D cid b0 n0 sv (am_rn on) mn cc fr lo nL) (hp : P[i]? = some (pc, q)) (hck : am_c_ior G on mn cc rt fr lo P i pc q = true) (hst : am_x_ior X q i ls st S = some (.inl (j, ls', st', S'))) (kk : am_At p l e R s mid args below meth c Q D cid b0 n0 t0 sv nL P j ls' st' S') : am_At p l e R s mid args below meth c Q D cid b0 n0 t0 sv nL P i ls st S := by
  intro hn ht pc2 q2 H locs real hp2 hP hS hL
  obtain ⟨rfl, rfl⟩ : pc = pc2 ∧ q = q2 := by
    rw [hp] at hp2
    cases hp2
    exact ⟨rfl, rfl⟩
  obtain ⟨hx, hb, hml, hlk, hmn, hown, hts, hK, hO, hb0, hfr, hlo⟩ := C
  simp only [am_c_ior, Bool.and_eq_true, decide_eq_true_eq, am_de_iff] at hck
  obtain ⟨hd, hnx⟩ := hck
  obtain ⟨q', hq'⟩ := am_nx_of hnx
  unfold am_x_ior at hst
  split at hst
  · simp only [am_go, Option.some.injEq, Sum.inl.injEq, Prod.mk.injEq] at hst
    obtain ⟨rfl, rfl, rfl, rfl⟩ := hst
    have K := kk hn ht _ _ H locs real hq' hP hS hL
    simp only [List.map_cons, am_v] at K ⊢
    exact lv_ior hx hb hd K
  · cases hst

set_option maxHeartbeats 1000000 in
theorem am_s_ixor (C : am_Cx X p R s mid args meth c D cid b0 n0 sv (am_rn on) mn cc fr lo nL) (hp : P[i]? = some (pc, q)) (hck : am_c_ixor G on mn cc rt fr lo P i pc q = true) (hst : am_x_ixor X q i ls st S = some (.inl (j, ls', st', S'))) (kk : am_At p l e R s mid args below meth c Q D cid b0 n0 t0 sv nL P j ls' st' S') : am_At p l e R s mid args below meth c Q D cid b0 n0 t0 sv nL P i ls st S := by
  intro hn ht pc2 q2 H locs real hp2 hP hS hL
  obtain ⟨rfl, rfl⟩ : pc = pc2 ∧ q = q2 := by
    rw [hp] at hp2
    cases hp2
    exact ⟨rfl, rfl⟩
  obtain ⟨hx, hb, hml, hlk, hmn, hown, hts, hK, hO, hb0, hfr, hlo⟩ := C
  simp only [am_c_ixor, Bool.and_eq_true, decide_eq_true_eq, am_de_iff] at hck
  obtain ⟨hd, hnx⟩ := hck
  obtain ⟨q', hq'⟩ := am_nx_of hnx
  unfold am_x_ixor at hst
  split at hst
  · simp only [am_go, Option.some.injEq, Sum.inl.injEq, Prod.mk.injEq] at hst
    obtain ⟨rfl, rfl, rfl, rfl⟩ := hst
    have K := kk hn ht _ _ H locs real hq' hP hS hL
    simp only [List.map_cons, am_v] at K ⊢
    exact lv_ixor hx hb hd K
  · cases hst

set_option maxHeartbeats 1000000 in
theorem am_s_ishl (C : am_Cx X p R s mid args meth c D cid b0 n0 sv (am_rn on) mn cc fr lo nL) (hp : P[i]? = some (pc, q)) (hck : am_c_ishl G on mn cc rt fr lo P i pc q = true) (hst : am_x_ishl X q i ls st S = some (.inl (j, ls', st', S'))) (kk : am_At p l e R s mid args below meth c Q D cid b0 n0 t0 sv nL P j ls' st' S') : am_At p l e R s mid args below meth c Q D cid b0 n0 t0 sv nL P i ls st S := by
  intro hn ht pc2 q2 H locs real hp2 hP hS hL
  obtain ⟨rfl, rfl⟩ : pc = pc2 ∧ q = q2 := by
    rw [hp] at hp2
    cases hp2
    exact ⟨rfl, rfl⟩
  obtain ⟨hx, hb, hml, hlk, hmn, hown, hts, hK, hO, hb0, hfr, hlo⟩ := C
  simp only [am_c_ishl, Bool.and_eq_true, decide_eq_true_eq, am_de_iff] at hck
  obtain ⟨hd, hnx⟩ := hck
  obtain ⟨q', hq'⟩ := am_nx_of hnx
  unfold am_x_ishl at hst
  split at hst
  · simp only [am_go, Option.some.injEq, Sum.inl.injEq, Prod.mk.injEq] at hst
    obtain ⟨rfl, rfl, rfl, rfl⟩ := hst
    have K := kk hn ht _ _ H locs real hq' hP hS hL
    simp only [List.map_cons, am_v] at K ⊢
    exact lv_ishl hx hb hd K
  · cases hst

set_option maxHeartbeats 1000000 in
theorem am_s_ishr (C : am_Cx X p R s mid args meth c D cid b0 n0 sv (am_rn on) mn cc fr lo nL) (hp : P[i]? = some (pc, q)) (hck : am_c_ishr G on mn cc rt fr lo P i pc q = true) (hst : am_x_ishr X q i ls st S = some (.inl (j, ls', st', S'))) (kk : am_At p l e R s mid args below meth c Q D cid b0 n0 t0 sv nL P j ls' st' S') : am_At p l e R s mid args below meth c Q D cid b0 n0 t0 sv nL P i ls st S := by
  intro hn ht pc2 q2 H locs real hp2 hP hS hL
  obtain ⟨rfl, rfl⟩ : pc = pc2 ∧ q = q2 := by
    rw [hp] at hp2
    cases hp2
    exact ⟨rfl, rfl⟩
  obtain ⟨hx, hb, hml, hlk, hmn, hown, hts, hK, hO, hb0, hfr, hlo⟩ := C
  simp only [am_c_ishr, Bool.and_eq_true, decide_eq_true_eq, am_de_iff] at hck
  obtain ⟨hd, hnx⟩ := hck
  obtain ⟨q', hq'⟩ := am_nx_of hnx
  unfold am_x_ishr at hst
  split at hst
  · simp only [am_go, Option.some.injEq, Sum.inl.injEq, Prod.mk.injEq] at hst
    obtain ⟨rfl, rfl, rfl, rfl⟩ := hst
    have K := kk hn ht _ _ H locs real hq' hP hS hL
    simp only [List.map_cons, am_v] at K ⊢
    exact lv_ishr hx hb hd K
  · cases hst

set_option maxHeartbeats 1000000 in
theorem am_s_ineg (C : am_Cx X p R s mid args meth c D cid b0 n0 sv (am_rn on) mn cc fr lo nL) (hp : P[i]? = some (pc, q)) (hck : am_c_ineg G on mn cc rt fr lo P i pc q = true) (hst : am_x_ineg X q i ls st S = some (.inl (j, ls', st', S'))) (kk : am_At p l e R s mid args below meth c Q D cid b0 n0 t0 sv nL P j ls' st' S') : am_At p l e R s mid args below meth c Q D cid b0 n0 t0 sv nL P i ls st S := by
  intro hn ht pc2 q2 H locs real hp2 hP hS hL
  obtain ⟨rfl, rfl⟩ : pc = pc2 ∧ q = q2 := by
    rw [hp] at hp2
    cases hp2
    exact ⟨rfl, rfl⟩
  obtain ⟨hx, hb, hml, hlk, hmn, hown, hts, hK, hO, hb0, hfr, hlo⟩ := C
  simp only [am_c_ineg, Bool.and_eq_true, decide_eq_true_eq, am_de_iff] at hck
  obtain ⟨hd, hnx⟩ := hck
  obtain ⟨q', hq'⟩ := am_nx_of hnx
  unfold am_x_ineg at hst
  split at hst
  · simp only [am_go, Option.some.injEq, Sum.inl.injEq, Prod.mk.injEq] at hst
    obtain ⟨rfl, rfl, rfl, rfl⟩ := hst
    have K := kk hn ht _ _ H locs real hq' hP hS hL
    simp only [List.map_cons, am_v] at K ⊢
    exact lv_ineg hx hb hd K
  · cases hst

set_option maxHeartbeats 1000000 in
theorem am_s_ladd (C : am_Cx X p R s mid args meth c D cid b0 n0 sv (am_rn on) mn cc fr lo nL) (hp : P[i]? = some (pc, q)) (hck : am_c_ladd G on mn cc rt fr lo P i pc q = true) (hst : am_x_ladd X q i ls st S = some (.inl (j, ls', st', S'))) (kk : am_At p l e R s mid args below meth c Q D cid b0 n0 t0 sv nL P j ls' st' S') : am_At p l e R s mid args below meth c Q D cid b0 n0 t0 sv nL P i ls st S := by
  intro hn ht pc2 q2 H locs real hp2 hP hS hL
  obtain ⟨rfl, rfl⟩ : pc = pc2 ∧ q = q2 := by
    rw [hp] at hp2
    cases hp2
    exact ⟨rfl, rfl⟩
  obtain ⟨hx, hb, hml, hlk, hmn, hown, hts, hK, hO, hb0, hfr, hlo⟩ := C
  simp only [am_c_ladd, Bool.and_eq_true, decide_eq_true_eq, am_de_iff] at hck
  obtain ⟨hd, hnx⟩ := hck
  obtain ⟨q', hq'⟩ := am_nx_of hnx
  unfold am_x_ladd at hst
  split at hst
  · simp only [am_go, Option.some.injEq, Sum.inl.injEq, Prod.mk.injEq] at hst
    obtain ⟨rfl, rfl, rfl, rfl⟩ := hst
    have K := kk hn ht _ _ H locs real hq' hP hS hL
    simp only [List.map_cons, am_v] at K ⊢
    exact lv_ladd hx hb hd K
  · cases hst

set_option maxHeartbeats 1000000 in
theorem am_s_lsub (C : am_Cx X p R s mid args meth c D cid b0 n0 sv (am_rn on) mn cc fr lo nL) (hp : P[i]? = some (pc, q)) (hck : am_c_lsub G on mn cc rt fr lo P i pc q = true) (hst : am_x_lsub X q i ls st S = some (.inl (j, ls', st', S'))) (kk : am_At p l e R s mid args below meth c Q D cid b0 n0 t0 sv nL P j ls' st' S') : am_At p l e R s mid args below meth c Q D cid b0 n0 t0 sv nL P i ls st S := by
  intro hn ht pc2 q2 H locs real hp2 hP hS hL
  obtain ⟨rfl, rfl⟩ : pc = pc2 ∧ q = q2 := by
    rw [hp] at hp2
    cases hp2
    exact ⟨rfl, rfl⟩
  obtain ⟨hx, hb, hml, hlk, hmn, hown, hts, hK, hO, hb0, hfr, hlo⟩ := C
  simp only [am_c_lsub, Bool.and_eq_true, decide_eq_true_eq, am_de_iff] at hck
  obtain ⟨hd, hnx⟩ := hck
  obtain ⟨q', hq'⟩ := am_nx_of hnx
  unfold am_x_lsub at hst
  split at hst
  · simp only [am_go, Option.some.injEq, Sum.inl.injEq, Prod.mk.injEq] at hst
    obtain ⟨rfl, rfl, rfl, rfl⟩ := hst
    have K := kk hn ht _ _ H locs real hq' hP hS hL
    simp only [List.map_cons, am_v] at K ⊢
    exact lv_lsub hx hb hd K
  · cases hst

set_option maxHeartbeats 1000000 in
theorem am_s_lmul (C : am_Cx X p R s mid args meth c D cid b0 n0 sv (am_rn on) mn cc fr lo nL) (hp : P[i]? = some (pc, q)) (hck : am_c_lmul G on mn cc rt fr lo P i pc q = true) (hst : am_x_lmul X q i ls st S = some (.inl (j, ls', st', S'))) (kk : am_At p l e R s mid args below meth c Q D cid b0 n0 t0 sv nL P j ls' st' S') : am_At p l e R s mid args below meth c Q D cid b0 n0 t0 sv nL P i ls st S := by
  intro hn ht pc2 q2 H locs real hp2 hP hS hL
  obtain ⟨rfl, rfl⟩ : pc = pc2 ∧ q = q2 := by
    rw [hp] at hp2
    cases hp2
    exact ⟨rfl, rfl⟩
  obtain ⟨hx, hb, hml, hlk, hmn, hown, hts, hK, hO, hb0, hfr, hlo⟩ := C
  simp only [am_c_lmul, Bool.and_eq_true, decide_eq_true_eq, am_de_iff] at hck
  obtain ⟨hd, hnx⟩ := hck
  obtain ⟨q', hq'⟩ := am_nx_of hnx
  unfold am_x_lmul at hst
  split at hst
  · simp only [am_go, Option.some.injEq, Sum.inl.injEq, Prod.mk.injEq] at hst
    obtain ⟨rfl, rfl, rfl, rfl⟩ := hst
    have K := kk hn ht _ _ H locs real hq' hP hS hL
    simp only [List.map_cons, am_v] at K ⊢
    exact lv_lmul hx hb hd K
  · cases hst

set_option maxHeartbeats 1000000 in
theorem am_s_land (C : am_Cx X p R s mid args meth c D cid b0 n0 sv (am_rn on) mn cc fr lo nL) (hp : P[i]? = some (pc, q)) (hck : am_c_land G on mn cc rt fr lo P i pc q = true) (hst : am_x_land X q i ls st S = some (.inl (j, ls', st', S'))) (kk : am_At p l e R s mid args below meth c Q D cid b0 n0 t0 sv nL P j ls' st' S') : am_At p l e R s mid args below meth c Q D cid b0 n0 t0 sv nL P i ls st S := by
  intro hn ht pc2 q2 H locs real hp2 hP hS hL
  obtain ⟨rfl, rfl⟩ : pc = pc2 ∧ q = q2 := by
    rw [hp] at hp2
    cases hp2
    exact ⟨rfl, rfl⟩
  obtain ⟨hx, hb, hml, hlk, hmn, hown, hts, hK, hO, hb0, hfr, hlo⟩ := C
  simp only [am_c_land, Bool.and_eq_true, decide_eq_true_eq, am_de_iff] at hck
  obtain ⟨hd, hnx⟩ := hck
  obtain ⟨q', hq'⟩ := am_nx_of hnx
  unfold am_x_land at hst
  split at hst
  · simp only [am_go, Option.some.injEq, Sum.inl.injEq, Prod.mk.injEq] at hst
    obtain ⟨rfl, rfl, rfl, rfl⟩ := hst
    have K := kk hn ht _ _ H locs real hq' hP hS hL
    simp only [List.map_cons, am_v] at K ⊢
    exact lv_land hx hb hd K
  · cases hst

set_option maxHeartbeats 1000000 in
theorem am_s_lor (C : am_Cx X p R s mid args meth c D cid b0 n0 sv (am_rn on) mn cc fr lo nL) (hp : P[i]? = some (pc, q)) (hck : am_c_lor G on mn cc rt fr lo P i pc q = true) (hst : am_x_lor X q i ls st S = some (.inl (j, ls', st', S'))) (kk : am_At p l e R s mid args below meth c Q D cid b0 n0 t0 sv nL P j ls' st' S') : am_At p l e R s mid args below meth c Q D cid b0 n0 t0 sv nL P i ls st S := by
  intro hn ht pc2 q2 H locs real hp2 hP hS hL
  obtain ⟨rfl, rfl⟩ : pc = pc2 ∧ q = q2 := by
    rw [hp] at hp2
    cases hp2
    exact ⟨rfl, rfl⟩
  obtain ⟨hx, hb, hml, hlk, hmn, hown, hts, hK, hO, hb0, hfr, hlo⟩ := C
  simp only [am_c_lor, Bool.and_eq_true, decide_eq_true_eq, am_de_iff] at hck
  obtain ⟨hd, hnx⟩ := hck
  obtain ⟨q', hq'⟩ := am_nx_of hnx
  unfold am_x_lor at hst
  split at hst
  · simp only [am_go, Option.some.injEq, Sum.inl.injEq, Prod.mk.injEq] at hst
    obtain ⟨rfl, rfl, rfl, rfl⟩ := hst
    have K := kk hn ht _ _ H locs real hq' hP hS hL
    simp only [List.map_cons, am_v] at K ⊢
    exact lv_lor hx hb hd K
  · cases hst

set_option maxHeartbeats 1000000 in
theorem am_s_iushr (C : am_Cx X p R s mid args meth c D cid b0 n0 sv (am_rn on) mn cc fr lo nL) (hp : P[i]? = some (pc, q)) (hck : am_c_iushr G on mn cc rt fr lo P i pc q = true) (hst : am_x_iushr X q i ls st S = some (.inl (j, ls', st', S'))) (kk : am_At p l e R s mid args below meth c Q D cid b0 n0 t0 sv nL P j ls' st' S') : am_At p l e R s mid args below meth c Q D cid b0 n0 t0 sv nL P i ls st S := by
  intro hn ht pc2 q2 H locs real hp2 hP hS hL
  obtain ⟨rfl, rfl⟩ : pc = pc2 ∧ q = q2 := by
    rw [hp] at hp2
    cases hp2
    exact ⟨rfl, rfl⟩
  obtain ⟨hx, hb, hml, hlk, hmn, hown, hts, hK, hO, hb0, hfr, hlo⟩ := C
  simp only [am_c_iushr, Bool.and_eq_true, decide_eq_true_eq, am_de_iff] at hck
  obtain ⟨hd, hnx⟩ := hck
  obtain ⟨q', hq'⟩ := am_nx_of hnx
  unfold am_x_iushr at hst
  split at hst
  · simp only [am_go, Option.some.injEq, Sum.inl.injEq, Prod.mk.injEq] at hst
    obtain ⟨rfl, rfl, rfl, rfl⟩ := hst
    have K := kk hn ht _ _ H locs real hq' hP hS hL
    simp only [List.map_cons, am_v] at K ⊢
    exact lv_iushr hx hb hd rfl K
  · cases hst

set_option maxHeartbeats 1000000 in
theorem am_s_lshl (C : am_Cx X p R s mid args meth c D cid b0 n0 sv (am_rn on) mn cc fr lo nL) (hp : P[i]? = some (pc, q)) (hck : am_c_lshl G on mn cc rt fr lo P i pc q = true) (hst : am_x_lshl X q i ls st S = some (.inl (j, ls', st', S'))) (kk : am_At p l e R s mid args below meth c Q D cid b0 n0 t0 sv nL P j ls' st' S') : am_At p l e R s mid args below meth c Q D cid b0 n0 t0 sv nL P i ls st S := by
  intro hn ht pc2 q2 H locs real hp2 hP hS hL
  obtain ⟨rfl, rfl⟩ : pc = pc2 ∧ q = q2 := by
    rw [hp] at hp2
    cases hp2
    exact ⟨rfl, rfl⟩
  obtain ⟨hx, hb, hml, hlk, hmn, hown, hts, hK, hO, hb0, hfr, hlo⟩ := C
  simp only [am_c_lshl, Bool.and_eq_true, decide_eq_true_eq, am_de_iff] at hck
  obtain ⟨hd, hnx⟩ := hck
  obtain ⟨q', hq'⟩ := am_nx_of hnx
  unfold am_x_lshl at hst
  split at hst
  · simp only [am_go, Option.some.injEq, Sum.inl.injEq, Prod.mk.injEq] at hst
    obtain ⟨rfl, rfl, rfl, rfl⟩ := hst
    have K := kk hn ht _ _ H locs real hq' hP hS hL
    simp only [List.map_cons, am_v] at K ⊢
    exact lv_lshl hx hb hd rfl K
  · cases hst

set_option maxHeartbeats 1000000 in
theorem am_s_lushr (C : am_Cx X p R s mid args meth c D cid b0 n0 sv (am_rn on) mn cc fr lo nL) (hp : P[i]? = some (pc, q)) (hck : am_c_lushr G on mn cc rt fr lo P i pc q = true) (hst : am_x_lushr X q i ls st S = some (.inl (j, ls', st', S'))) (kk : am_At p l e R s mid args below meth c Q D cid b0 n0 t0 sv nL P j ls' st' S') : am_At p l e R s mid args below meth c Q D cid b0 n0 t0 sv nL P i ls st S := by
  intro hn ht pc2 q2 H locs real hp2 hP hS hL
  obtain ⟨rfl, rfl⟩ : pc = pc2 ∧ q = q2 := by
    rw [hp] at hp2
    cases hp2
    exact ⟨rfl, rfl⟩
  obtain ⟨hx, hb, hml, hlk, hmn, hown, hts, hK, hO, hb0, hfr, hlo⟩ := C
  simp only [am_c_lushr, Bool.and_eq_true, decide_eq_true_eq, am_de_iff] at hck
  obtain ⟨hd, hnx⟩ := hck
  obtain ⟨q', hq'⟩ := am_nx_of hnx
  unfold am_x_lushr at hst
  split at hst
  · simp only [am_go, Option.some.injEq, Sum.inl.injEq, Prod.mk.injEq] at hst
    obtain ⟨rfl, rfl, rfl, rfl⟩ := hst
    have K := kk hn ht _ _ H locs real hq' hP hS hL
    simp only [List.map_cons, am_v] at K ⊢
    exact lv_lushr hx hb hd rfl K
  · cases hst

set_option maxHeartbeats 1000000 in
theorem am_s_i2l (C : am_Cx X p R s mid args meth c D cid b0 n0 sv (am_rn on) mn cc fr lo nL) (hp : P[i]? = some (pc, q)) (hck : am_c_i2l G on mn cc rt fr lo P i pc q = true) (hst : am_x_i2l X q i ls st S = some (.inl (j, ls', st', S'))) (kk : am_At p l e R s mid args below meth c Q D cid b0 n0 t0 sv nL P j ls' st' S') : am_At p l e R s mid args below meth c Q D cid b0 n0 t0 sv nL P i ls st S := by
  intro hn ht pc2 q2 H locs real hp2 hP hS hL
  obtain ⟨rfl, rfl⟩ : pc = pc2 ∧ q = q2 := by
    rw [hp] at hp2
    cases hp2
    exact ⟨rfl, rfl⟩
  obtain ⟨hx, hb, hml, hlk, hmn, hown, hts, hK, hO, hb0, hfr, hlo⟩ := C
  simp only [am_c_i2l, Bool.and_eq_true, decide_eq_true_eq, am_de_iff] at hck
  obtain ⟨hd, hnx⟩ := hck
  obtain ⟨q', hq'⟩ := am_nx_of hnx
  unfold am_x_i2l at hst
  split at hst
  · simp only [am_go, Option.some.injEq, Sum.inl.injEq, Prod.mk.injEq] at hst
    obtain ⟨rfl, rfl, rfl, rfl⟩ := hst
    have K := kk hn ht _ _ H locs real hq' hP hS hL
    simp only [List.map_cons, am_v] at K ⊢
    exact lv_i2l hx hb hd rfl K
  · cases hst

set_option maxHeartbeats 1000000 in
theorem am_s_l2i (C : am_Cx X p R s mid args meth c D cid b0 n0 sv (am_rn on) mn cc fr lo nL) (hp : P[i]? = some (pc, q)) (hck : am_c_l2i G on mn cc rt fr lo P i pc q = true) (hst : am_x_l2i X q i ls st S = some (.inl (j, ls', st', S'))) (kk : am_At p l e R s mid args below meth c Q D cid b0 n0 t0 sv nL P j ls' st' S') : am_At p l e R s mid args below meth c Q D cid b0 n0 t0 sv nL P i ls st S := by
  intro hn ht pc2 q2 H locs real hp2 hP hS hL
  obtain ⟨rfl, rfl⟩ : pc = pc2 ∧ q = q2 := by
    rw [hp] at hp2
    cases hp2
    exact ⟨rfl, rfl⟩
  obtain ⟨hx, hb, hml, hlk, hmn, hown, hts, hK, hO, hb0, hfr, hlo⟩ := C
  simp only [am_c_l2i, Bool.and_eq_true, decide_eq_true_eq, am_de_iff] at hck
  obtain ⟨hd, hnx⟩ := hck
  obtain ⟨q', hq'⟩ := am_nx_of hnx
  unfold am_x_l2i at hst
  split at hst
  · simp only [am_go, Option.some.injEq, Sum.inl.injEq, Prod.mk.injEq] at hst
    obtain ⟨rfl, rfl, rfl, rfl⟩ := hst
    have K := kk hn ht _ _ H locs real hq' hP hS hL
    simp only [List.map_cons, am_v] at K ⊢
    exact lv_l2i hx hb hd rfl K
  · cases hst

set_option maxHeartbeats 1000000 in
theorem am_s_i2c (C : am_Cx X p R s mid args meth c D cid b0 n0 sv (am_rn on) mn cc fr lo nL) (hp : P[i]? = some (pc, q)) (hck : am_c_i2c G on mn cc rt fr lo P i pc q = true) (hst : am_x_i2c X q i ls st S = some (.inl (j, ls', st', S'))) (kk : am_At p l e R s mid args below meth c Q D cid b0 n0 t0 sv nL P j ls' st' S') : am_At p l e R s mid args below meth c Q D cid b0 n0 t0 sv nL P i ls st S := by
  intro hn ht pc2 q2 H locs real hp2 hP hS hL
  obtain ⟨rfl, rfl⟩ : pc = pc2 ∧ q = q2 := by
    rw [hp] at hp2
    cases hp2
    exact ⟨rfl, rfl⟩
  obtain ⟨hx, hb, hml, hlk, hmn, hown, hts, hK, hO, hb0, hfr, hlo⟩ := C
  simp only [am_c_i2c, Bool.and_eq_true, decide_eq_true_eq, am_de_iff] at hck
  obtain ⟨hd, hnx⟩ := hck
  obtain ⟨q', hq'⟩ := am_nx_of hnx
  unfold am_x_i2c at hst
  split at hst
  · simp only [am_go, Option.some.injEq, Sum.inl.injEq, Prod.mk.injEq] at hst
    obtain ⟨rfl, rfl, rfl, rfl⟩ := hst
    have K := kk hn ht _ _ H locs real hq' hP hS hL
    simp only [List.map_cons, am_v] at K ⊢
    exact lv_i2c hx hb hd rfl K
  · cases hst

set_option maxHeartbeats 1000000 in
theorem am_s_idiv (C : am_Cx X p R s mid args meth c D cid b0 n0 sv (am_rn on) mn cc fr lo nL) (hp : P[i]? = some (pc, q)) (hck : am_c_idiv G on mn cc rt fr lo P i pc q = true) (hst : am_x_idiv X q i ls st S = some (.inl (j, ls', st', S'))) (kk : am_At p l e R s mid args below meth c Q D cid b0 n0 t0 sv nL P j ls' st' S') : am_At p l e R s mid args below meth c Q D cid b0 n0 t0 sv nL P i ls st S := by
  intro hn ht pc2 q2 H locs real hp2 hP hS hL
  obtain ⟨rfl, rfl⟩ : pc = pc2 ∧ q = q2 := by
    rw [hp] at hp2
    cases hp2
    exact ⟨rfl, rfl⟩
  obtain ⟨hx, hb, hml, hlk, hmn, hown, hts, hK, hO, hb0, hfr, hlo⟩ := C
  simp only [am_c_idiv, Bool.and_eq_true, decide_eq_true_eq, am_de_iff] at hck
  obtain ⟨hd, hnx⟩ := hck
  obtain ⟨q', hq'⟩ := am_nx_of hnx
  unfold am_x_idiv at hst
  split at hst
  · split at hst
    · cases hst
    · rename_i hne
      simp only [am_go, Option.some.injEq, Sum.inl.injEq, Prod.mk.injEq] at hst
      obtain ⟨rfl, rfl, rfl, rfl⟩ := hst
      have K := kk hn ht _ _ H locs real hq' hP hS hL
      simp only [List.map_cons, am_v] at K ⊢
      exact lv_idiv hx hb hd hne K
  · cases hst

set_option maxHeartbeats 1000000 in
theorem am_s_irem (C : am_Cx X p R s mid args meth c D cid b0 n0 sv (am_rn on) mn cc fr lo nL) (hp : P[i]? = some (pc, q)) (hck : am_c_irem G on mn cc rt fr lo P i pc q = true) (hst : am_x_irem X q i ls st S = some (.inl (j, ls', st', S'))) (kk : am_At p l e R s mid args below meth c Q D cid b0 n0 t0 sv nL P j ls' st' S') : am_At p l e R s mid args below meth c Q D cid b0 n0 t0 sv nL P i ls st S := by
  intro hn ht pc2 q2 H locs real hp2 hP hS hL
  obtain ⟨rfl, rfl⟩ : pc = pc2 ∧ q = q2 := by
    rw [hp] at hp2
    cases hp2
    exact ⟨rfl, rfl⟩
  obtain ⟨hx, hb, hml, hlk, hmn, hown, hts, hK, hO, hb0, hfr, hlo⟩ := C
  simp only [am_c_irem, Bool.and_eq_true, decide_eq_true_eq, am_de_iff] at hck
  obtain ⟨hd, hnx⟩ := hck
  obtain ⟨q', hq'⟩ := am_nx_of hnx
  unfold am_x_irem at hst
  split at hst
  · split at hst
    · cases hst
    · rename_i hne
      simp only [am_go, Option.some.injEq, Sum.inl.injEq, Prod.mk.injEq] at hst
      obtain ⟨rfl, rfl, rfl, rfl⟩ := hst
      have K := kk hn ht _ _ H locs real hq' hP hS hL
      simp only [List.map_cons, am_v] at K ⊢
      exact lv_irem hx hb hd hne K
  · cases hst

set_option maxHeartbeats 1000000 in
theorem am_s_lrem (C : am_Cx X p R s mid args meth c D cid b0 n0 sv (am_rn on) mn cc fr lo nL) (hp : P[i]? = some (pc, q)) (hck : am_c_lrem G on mn cc rt fr lo P i pc q = true) (hst : am_x_lrem X q i ls st S = some (.inl (j, ls', st', S'))) (kk : am_At p l e R s mid args below meth c Q D cid b0 n0 t0 sv nL P j ls' st' S') : am_At p l e R s mid args below meth c Q D cid b0 n0 t0 sv nL P i ls st S := by
  intro hn ht pc2 q2 H locs real hp2 hP hS hL
  obtain ⟨rfl, rfl⟩ : pc = pc2 ∧ q = q2 := by
    rw [hp] at hp2
    cases hp2
    exact ⟨rfl, rfl⟩
  obtain ⟨hx, hb, hml, hlk, hmn, hown, hts, hK, hO, hb0, hfr, hlo⟩ := C
  simp only [am_c_lrem, Bool.and_eq_true, decide_eq_true_eq, am_de_iff] at hck
  obtain ⟨hd, hnx⟩ := hck
  obtain ⟨q', hq'⟩ := am_nx_of hnx
  unfold am_x_lrem at hst
  split at hst
  · split at hst
    · cases hst
    · rename_i hne
      simp only [am_go, Option.some.injEq, Sum.inl.injEq, Prod.mk.injEq] at hst
      obtain ⟨rfl, rfl, rfl, rfl⟩ := hst
      have K := kk hn ht _ _ H locs real hq' hP hS hL
      simp only [List.map_cons, am_v] at K ⊢
      exact lv_lrem hx hb hd hne K
  · cases hst

theorem am_s_iconst (C : am_Cx X p R s mid args meth c D cid b0 n0 sv (am_rn on) mn cc fr lo nL) (hp : P[i]? = some (pc, q)) (hck : am_c_iconst G on mn cc rt fr lo P i pc q = true) (hst : am_x_iconst X q i ls st S = some (.inl (j, ls', st', S'))) (kk : am_At p l e R s mid args below meth c Q D cid b0 n0 t0 sv nL P j ls' st' S') : am_At p l e R s mid args below meth c Q D cid b0 n0 t0 sv nL P i ls st S := by
  intro hn ht pc2 q2 H locs real hp2 hP hS hL
  obtain ⟨rfl, rfl⟩ : pc = pc2 ∧ q = q2 := by
    rw [hp] at hp2
    cases hp2
    exact ⟨rfl, rfl⟩
  obtain ⟨hx, hb, hml, hlk, hmn, hown, hts, hK, hO, hb0, hfr, hlo⟩ := C
  simp only [am_c_iconst, Bool.and_eq_true, decide_eq_true_eq, am_de_iff] at hck
  obtain ⟨hd, hnx⟩ := hck
  obtain ⟨q', hq'⟩ := am_nx_of hnx
  unfold am_x_iconst at hst
  simp only [am_go, Option.some.injEq, Sum.inl.injEq, Prod.mk.injEq] at hst
  obtain ⟨rfl, rfl, rfl, rfl⟩ := hst
  have K := kk hn ht _ _ H locs real hq' hP hS hL
  simp only [List.map_cons, am_v] at K
  exact lv_iconst hx hb hd rfl K

theorem am_s_bipush (C : am_Cx X p R s mid args meth c D cid b0 n0 sv (am_rn on) mn cc fr lo nL) (hp : P[i]? = some (pc, q)) (hck : am_c_bipush G on mn cc rt fr lo P i pc q = true) (hst : am_x_bipush X q i ls st S = some (.inl (j, ls', st', S'))) (kk : am_At p l e R s mid args below meth c Q D cid b0 n0 t0 sv nL P j ls' st' S') : am_At p l e R s mid args below meth c Q D cid b0 n0 t0 sv nL P i ls st S := by
  intro hn ht pc2 q2 H locs real hp2 hP hS hL
  obtain ⟨rfl, rfl⟩ : pc = pc2 ∧ q = q2 := by
    rw [hp] at hp2
    cases hp2
    exact ⟨rfl, rfl⟩
  obtain ⟨hx, hb, hml, hlk, hmn, hown, hts, hK, hO, hb0, hfr, hlo⟩ := C
  simp only [am_c_bipush, Bool.and_eq_true, decide_eq_true_eq, am_de_iff] at hck
  obtain ⟨⟨hd, hv⟩, hnx⟩ := hck
  obtain ⟨q', hq'⟩ := am_nx_of hnx
  unfold am_x_bipush at hst
  simp only [am_go, Option.some.injEq, Sum.inl.injEq, Prod.mk.injEq] at hst
  obtain ⟨rfl, rfl, rfl, rfl⟩ := hst
  have K := kk hn ht _ _ H locs real hq' hP hS hL
  simp only [List.map_cons, am_v] at K
  exact lv_bipush hx hb hd hv K

theorem am_s_sipush (C : am_Cx X p R s mid args meth c D cid b0 n0 sv (am_rn on) mn cc fr lo nL) (hp : P[i]? = some (pc, q)) (hck : am_c_sipush G on mn cc rt fr lo P i pc q = true) (hst : am_x_sipush X q i ls st S = some (.inl (j, ls', st', S'))) (kk : am_At p l e R s mid args below meth c Q D cid b0 n0 t0 sv nL P j ls' st' S') : am_At p l e R s mid args below meth c Q D cid b0 n0 t0 sv nL P i ls st S := by
  intro hn ht pc2 q2 H locs real hp2 hP hS hL
  obtain ⟨rfl, rfl⟩ : pc = pc2 ∧ q = q2 := by
    rw [hp] at hp2
    cases hp2
    exact ⟨rfl, rfl⟩
  obtain ⟨hx, hb, hml, hlk, hmn, hown, hts, hK, hO, hb0, hfr, hlo⟩ := C
  simp only [am_c_sipush, Bool.and_eq_true, decide_eq_true_eq, am_de_iff] at hck
  obtain ⟨⟨hd, hv⟩, hnx⟩ := hck
  obtain ⟨q', hq'⟩ := am_nx_of hnx
  unfold am_x_sipush at hst
  simp only [am_go, Option.some.injEq, Sum.inl.injEq, Prod.mk.injEq] at hst
  obtain ⟨rfl, rfl, rfl, rfl⟩ := hst
  have K := kk hn ht _ _ H locs real hq' hP hS hL
  simp only [List.map_cons, am_v] at K
  exact lv_sipush hx hb hd hv K

theorem am_s_ldc (C : am_Cx X p R s mid args meth c D cid b0 n0 sv (am_rn on) mn cc fr lo nL) (hp : P[i]? = some (pc, q)) (hck : am_c_ldc G on mn cc rt fr lo P i pc q = true) (hst : am_x_ldc X q i ls st S = some (.inl (j, ls', st', S'))) (kk : am_At p l e R s mid args below meth c Q D cid b0 n0 t0 sv nL P j ls' st' S') : am_At p l e R s mid args below meth c Q D cid b0 n0 t0 sv nL P i ls st S := by
  intro hn ht pc2 q2 H locs real hp2 hP hS hL
  obtain ⟨rfl, rfl⟩ : pc = pc2 ∧ q = q2 := by
    rw [hp] at hp2
    cases hp2
    exact ⟨rfl, rfl⟩
  obtain ⟨hx, hb, hml, hlk, hmn, hown, hts, hK, hO, hb0, hfr, hlo⟩ := C
  simp only [am_c_ldc, Bool.and_eq_true, decide_eq_true_eq, am_de_iff] at hck
  obtain ⟨⟨hd, hw⟩, hnx⟩ := hck
  obtain ⟨q', hq'⟩ := am_nx_of hnx
  unfold am_x_ldc at hst
  simp only [am_go, Option.some.injEq, Sum.inl.injEq, Prod.mk.injEq] at hst
  obtain ⟨rfl, rfl, rfl, rfl⟩ := hst
  have K := kk hn ht _ _ H locs real hq' hP hS hL
  simp only [List.map_cons, am_v] at K
  exact lv_ldc hx hb hown (hts _ (am_has_mem hw)) hd K

theorem am_s_ldcw (C : am_Cx X p R s mid args meth c D cid b0 n0 sv (am_rn on) mn cc fr lo nL) (hp : P[i]? = some (pc, q)) (hck : am_c_ldcw G on mn cc rt fr lo P i pc q = true) (hst : am_x_ldcw X q i ls st S = some (.inl (j, ls', st', S'))) (kk : am_At p l e R s mid args below meth c Q D cid b0 n0 t0 sv nL P j ls' st' S') : am_At p l e R s mid args below meth c Q D cid b0 n0 t0 sv nL P i ls st S := by
  intro hn ht pc2 q2 H locs real hp2 hP hS hL
  obtain ⟨rfl, rfl⟩ : pc = pc2 ∧ q = q2 := by
    rw [hp] at hp2
    cases hp2
    exact ⟨rfl, rfl⟩
  obtain ⟨hx, hb, hml, hlk, hmn, hown, hts, hK, hO, hb0, hfr, hlo⟩ := C
  simp only [am_c_ldcw, Bool.and_eq_true, decide_eq_true_eq, am_de_iff] at hck
  obtain ⟨⟨hd, hw⟩, hnx⟩ := hck
  obtain ⟨q', hq'⟩ := am_nx_of hnx
  unfold am_x_ldcw at hst
  simp only [am_go, Option.some.injEq, Sum.inl.injEq, Prod.mk.injEq] at hst
  obtain ⟨rfl, rfl, rfl, rfl⟩ := hst
  have K := kk hn ht _ _ H locs real hq' hP hS hL
  simp only [List.map_cons, am_v] at K
  exact lv_ldcw hx hb hown (hts _ (am_has_mem hw)) hd K

theorem am_s_ldc2 (C : am_Cx X p R s mid args meth c D cid b0 n0 sv (am_rn on) mn cc fr lo nL) (hp : P[i]? = some (pc, q)) (hck : am_c_ldc2 G on mn cc rt fr lo P i pc q = true) (hst : am_x_ldc2 X q i ls st S = some (.inl (j, ls', st', S'))) (kk : am_At p l e R s mid args below meth c Q D cid b0 n0 t0 sv nL P j ls' st' S') : am_At p l e R s mid args below meth c Q D cid b0 n0 t0 sv nL P i ls st S := by
  intro hn ht pc2 q2 H locs real hp2 hP hS hL
  obtain ⟨rfl, rfl⟩ : pc = pc2 ∧ q = q2 := by
    rw [hp] at hp2
    cases hp2
    exact ⟨rfl, rfl⟩
  obtain ⟨hx, hb, hml, hlk, hmn, hown, hts, hK, hO, hb0, hfr, hlo⟩ := C
  simp only [am_c_ldc2, Bool.and_eq_true, decide_eq_true_eq, am_de_iff] at hck
  obtain ⟨⟨hd, hw⟩, hnx⟩ := hck
  obtain ⟨q', hq'⟩ := am_nx_of hnx
  unfold am_x_ldc2 at hst
  simp only [am_go, Option.some.injEq, Sum.inl.injEq, Prod.mk.injEq] at hst
  obtain ⟨rfl, rfl, rfl, rfl⟩ := hst
  have K := kk hn ht _ _ H locs real hq' hP hS hL
  simp only [List.map_cons, am_v] at K
  exact lv_ldc2 hx hb hown (hts _ (am_has_mem hw)) hd K

theorem am_s_lconst (C : am_Cx X p R s mid args meth c D cid b0 n0 sv (am_rn on) mn cc fr lo nL) (hp : P[i]? = some (pc, q)) (hck : am_c_lconst G on mn cc rt fr lo P i pc q = true) (hst : am_x_lconst X q i ls st S = some (.inl (j, ls', st', S'))) (kk : am_At p l e R s mid args below meth c Q D cid b0 n0 t0 sv nL P j ls' st' S') : am_At p l e R s mid args below meth c Q D cid b0 n0 t0 sv nL P i ls st S := by
  intro hn ht pc2 q2 H locs real hp2 hP hS hL
  obtain ⟨rfl, rfl⟩ : pc = pc2 ∧ q = q2 := by
    rw [hp] at hp2
    cases hp2
    exact ⟨rfl, rfl⟩
  obtain ⟨hx, hb, hml, hlk, hmn, hown, hts, hK, hO, hb0, hfr, hlo⟩ := C
  simp only [am_c_lconst, Bool.and_eq_true, List.any_eq_true, decide_eq_true_eq, am_de_iff] at hck
  obtain ⟨⟨k, -, hk, hd⟩, hnx⟩ := hck
  obtain ⟨q', hq'⟩ := am_nx_of hnx
  unfold am_x_lconst at hst
  simp only [am_go, Option.some.injEq, Sum.inl.injEq, Prod.mk.injEq] at hst
  obtain ⟨rfl, rfl, rfl, rfl⟩ := hst
  have K := kk hn ht _ _ H locs real hq' hP hS hL
  simp only [List.map_cons, am_v] at K
  exact lv_lconst hx hb hd (by rw [hk]) K

theorem am_s_iload (C : am_Cx X p R s mid args meth c D cid b0 n0 sv (am_rn on) mn cc fr lo nL) (hp : P[i]? = some (pc, q)) (hck : am_c_iload G on mn cc rt fr lo P i pc q = true) (hst : am_x_iload X q i ls st S = some (.inl (j, ls', st', S'))) (kk : am_At p l e R s mid args below meth c Q D cid b0 n0 t0 sv nL P j ls' st' S') : am_At p l e R s mid args below meth c Q D cid b0 n0 t0 sv nL P i ls st S := by
  intro hn ht pc2 q2 H locs real hp2 hP hS hL
  obtain ⟨rfl, rfl⟩ : pc = pc2 ∧ q = q2 := by
    rw [hp] at hp2
    cases hp2
    exact ⟨rfl, rfl⟩
  obtain ⟨hx, hb, hml, hlk, hmn, hown, hts, hK, hO, hb0, hfr, hlo⟩ := C
  unfold am_x_iload at hst
  split at hst
  · rename_i x hx1
    simp only [am_go, Option.some.injEq, Sum.inl.injEq, Prod.mk.injEq] at hst
    obtain ⟨rfl, rfl, rfl, rfl⟩ := hst
    simp only [am_c_iload] at hck
    have hr := hL.2.2.2 _ _ hx1 (fun h => by cases h)
    split at hck
    · simp only [Bool.and_eq_true, List.any_eq_true, decide_eq_true_eq, am_de_iff] at hck
      obtain ⟨⟨k, -, hk, hd⟩, hnx⟩ := hck
      obtain ⟨q', hq'⟩ := am_nx_of hnx
      have K := kk hn ht _ _ H locs real hq' hP hS hL
      simp only [List.map_cons, am_v] at K hr
      exact lv_iload_n hx hb hd hk hr K
    · simp only [Bool.and_eq_true, decide_eq_true_eq, am_de_iff] at hck
      obtain ⟨hd, hnx⟩ := hck
      obtain ⟨q', hq'⟩ := am_nx_of hnx
      have K := kk hn ht _ _ H locs real hq' hP hS hL
      simp only [List.map_cons, am_v] at K hr
      exact lv_iload hx hb hd hr K
  · cases hst

theorem am_s_aload (C : am_Cx X p R s mid args meth c D cid b0 n0 sv (am_rn on) mn cc fr lo nL) (hp : P[i]? = some (pc, q)) (hck : am_c_aload G on mn cc rt fr lo P i pc q = true) (hst : am_x_aload X q i ls st S = some (.inl (j, ls', st', S'))) (kk : am_At p l e R s mid args below meth c Q D cid b0 n0 t0 sv nL P j ls' st' S') : am_At p l e R s mid args below meth c Q D cid b0 n0 t0 sv nL P i ls st S := by
  intro hn ht pc2 q2 H locs real hp2 hP hS hL
  obtain ⟨rfl, rfl⟩ : pc = pc2 ∧ q = q2 := by
    rw [hp] at hp2
    cases hp2
    exact ⟨rfl, rfl⟩
  obtain ⟨hx, hb, hml, hlk, hmn, hown, hts, hK, hO, hb0, hfr, hlo⟩ := C
  unfold am_x_aload at hst
  split at hst
  · rename_i x hx1
    simp only [am_go, Option.some.injEq, Sum.inl.injEq, Prod.mk.injEq] at hst
    obtain ⟨rfl, rfl, rfl, rfl⟩ := hst
    simp only [am_c_aload] at hck
    have hr := hL.2.2.2 _ _ hx1 (fun h => by cases h)
    split at hck
    · simp only [Bool.and_eq_true, List.any_eq_true, decide_eq_true_eq, am_de_iff] at hck
      obtain ⟨⟨k, -, hk, hd⟩, hnx⟩ := hck
      obtain ⟨q', hq'⟩ := am_nx_of hnx
      have K := kk hn ht _ _ H locs real hq' hP hS hL
      simp only [List.map_cons, am_v] at K hr
      exact lv_aload_n hx hb hd hk hr K
    · simp only [Bool.and_eq_true, decide_eq_true_eq, am_de_iff] at hck
      obtain ⟨hd, hnx⟩ := hck
      obtain ⟨q', hq'⟩ := am_nx_of hnx
      have K := kk hn ht _ _ H locs real hq' hP hS hL
      simp only [List.map_cons, am_v] at K hr
      exact lv_aload hx hb hd hr K
  · rename_i x hx1
    simp only [am_go, Option.some.injEq, Sum.inl.injEq, Prod.mk.injEq] at hst
    obtain ⟨rfl, rfl, rfl, rfl⟩ := hst
    simp only [am_c_aload] at hck
    have hr := hL.2.2.2 _ _ hx1 (fun h => by cases h)
    have hv : ∀ (v : Option Nat), real[q.2.1]? = some (.val (va_rf v)) → ∀ (pc' : Nat), W p l e R s mid args below meth c H locs (S.1.1 - n0) (S.1.2 - t0) Q (F0 mid pc' real (va_rf v :: st.map (am_v b0 sv))) → (∀ k : Fin 4, (k : Nat) = q.2.1 → decode cc pc = .ok (.aload_n k, 1) → pc' = pc + 1 → W p l e R s mid args below meth c H locs (S.1.1 - n0) (S.1.2 - t0) Q (F0 mid pc real (st.map (am_v b0 sv)))) ∧ (decode cc pc = .ok (.aload q.2.1, 2) → pc' = pc + 2 → W p l e R s mid args below meth c H locs (S.1.1 - n0) (S.1.2 - t0) Q (F0 mid pc real (st.map (am_v b0 sv)))) := by
      intro v hv pc' K
      cases v with
      | none => exact ⟨fun k hk hd hpc => by subst hpc; exact lv_aload_nN hx hb hd hk hv K, fun hd hpc => by subst hpc; exact lv_aloadN hx hb hd hv K⟩
      | some a => exact ⟨fun k hk hd hpc => by subst hpc; exact lv_aload_n hx hb hd hk hv K, fun hd hpc => by subst hpc; exact lv_aload hx hb hd hv K⟩
    split at hck
    · simp only [Bool.and_eq_true, List.any_eq_true, decide_eq_true_eq, am_de_iff] at hck
      obtain ⟨⟨k, -, hk, hd⟩, hnx⟩ := hck
      obtain ⟨q', hq'⟩ := am_nx_of hnx
      have K := kk hn ht _ _ H locs real hq' hP hS hL
      simp only [List.map_cons, am_v] at K hr
      exact (hv _ hr _ K).1 k hk hd rfl
    · simp only [Bool.and_eq_true, decide_eq_true_eq, am_de_iff] at hck
      obtain ⟨hd, hnx⟩ := hck
      obtain ⟨q', hq'⟩ := am_nx_of hnx
      have K := kk hn ht _ _ H locs real hq' hP hS hL
      simp only [List.map_cons, am_v] at K hr
      exact (hv _ hr _ K).2 hd rfl
  · cases hst

theorem am_s_lload (C : am_Cx X p R s mid args meth c D cid b0 n0 sv (am_rn on) mn cc fr lo nL) (hp : P[i]? = some (pc, q)) (hck : am_c_lload G on mn cc rt fr lo P i pc q = true) (hst : am_x_lload X q i ls st S = some (.inl (j, ls', st', S'))) (kk : am_At p l e R s mid args below meth c Q D cid b0 n0 t0 sv nL P j ls' st' S') : am_At p l e R s mid args below meth c Q D cid b0 n0 t0 sv nL P i ls st S := by
  intro hn ht pc2 q2 H locs real hp2 hP hS hL
  obtain ⟨rfl, rfl⟩ : pc = pc2 ∧ q = q2 := by
    rw [hp] at hp2
    cases hp2
    exact ⟨rfl, rfl⟩
  obtain ⟨hx, hb, hml, hlk, hmn, hown, hts, hK, hO, hb0, hfr, hlo⟩ := C
  unfold am_x_lload at hst
  split at hst
  · rename_i x hx1
    simp only [am_go, Option.some.injEq, Sum.inl.injEq, Prod.mk.injEq] at hst
    obtain ⟨rfl, rfl, rfl, rfl⟩ := hst
    simp only [am_c_lload] at hck
    have hr := hL.2.2.2 _ _ hx1 (fun h => by cases h)
    split at hck
    · simp only [Bool.and_eq_true, List.any_eq_true, decide_eq_true_eq, am_de_iff] at hck
      obtain ⟨⟨k, -, hk, hd⟩, hnx⟩ := hck
      obtain ⟨q', hq'⟩ := am_nx_of hnx
      have K := kk hn ht _ _ H locs real hq' hP hS hL
      simp only [List.map_cons, am_v] at K hr
      exact lv_lload_n hx hb hd hk hr K
    · simp only [Bool.and_eq_true, decide_eq_true_eq, am_de_iff] at hck
      obtain ⟨hd, hnx⟩ := hck
      obtain ⟨q', hq'⟩ := am_nx_of hnx
      have K := kk hn ht _ _ H locs real hq' hP hS hL
      simp only [List.map_cons, am_v] at K hr
      exact lv_lload hx hb hd hr K
  · cases hst

set_option maxHeartbeats 1000000 in
theorem am_s_istore (C : am_Cx X p R s mid args meth c D cid b0 n0 sv (am_rn on) mn cc fr lo nL) (hp : P[i]? = some (pc, q)) (hck : am_c_istore G on mn cc rt fr lo P i pc q = true) (hst : am_x_istore X q i ls st S = some (.inl (j, ls', st', S'))) (kk : am_At p l e R s mid args below meth c Q D cid b0 n0 t0 sv nL P j ls' st' S') : am_At p l e R s mid args below meth c Q D cid b0 n0 t0 sv nL P i ls st S := by
  intro hn ht pc2 q2 H locs real hp2 hP hS hL
  obtain ⟨rfl, rfl⟩ : pc = pc2 ∧ q = q2 := by
    rw [hp] at hp2
    cases hp2
    exact ⟨rfl, rfl⟩
  obtain ⟨hx, hb, hml, hlk, hmn, hown, hts, hK, hO, hb0, hfr, hlo⟩ := C
  unfold am_x_istore at hst
  split at hst
  · split at hst
    · rename_i hlt
      simp only [am_go, Option.some.injEq, Sum.inl.injEq, Prod.mk.injEq] at hst
      obtain ⟨rfl, rfl, rfl, rfl⟩ := hst
      simp only [am_c_istore] at hck
      have hlt2 : q.2.1 < nL := Nat.lt_of_lt_of_le hlt hL.2.2.1
      split at hck
      · simp only [Bool.and_eq_true, List.any_eq_true, decide_eq_true_eq, am_de_iff] at hck
        obtain ⟨⟨k, -, hk, hd⟩, hnx⟩ := hck
        obtain ⟨q', hq'⟩ := am_nx_of hnx
        simp only [List.map_cons, am_v]
        exact lv_istore_n hx hb hd hk hL.has hlt2 rfl (fun real2 h2 => kk hn ht _ _ H locs real2 hq' hP hS (am_L.st1 hL.2.2.1 h2))
      · simp only [Bool.and_eq_true, decide_eq_true_eq, am_de_iff] at hck
        obtain ⟨hd, hnx⟩ := hck
        obtain ⟨q', hq'⟩ := am_nx_of hnx
        simp only [List.map_cons, am_v]
        exact lv_istore hx hb hd hL.has hlt2 rfl (fun real2 h2 => kk hn ht _ _ H locs real2 hq' hP hS (am_L.st1 hL.2.2.1 h2))
    · cases hst
  · cases hst

set_option maxHeartbeats 1000000 in
theorem am_s_astore (C : am_Cx X p R s mid args meth c D cid b0 n0 sv (am_rn on) mn cc fr lo nL) (hp : P[i]? = some (pc, q)) (hck : am_c_astore G on mn cc rt fr lo P i pc q = true) (hst : am_x_astore X q i ls st S = some (.inl (j, ls', st', S'))) (kk : am_At p l e R s mid args below meth c Q D cid b0 n0 t0 sv nL P j ls' st' S') : am_At p l e R s mid args below meth c Q D cid b0 n0 t0 sv nL P i ls st S := by
  intro hn ht pc2 q2 H locs real hp2 hP hS hL
  obtain ⟨rfl, rfl⟩ : pc = pc2 ∧ q = q2 := by
    rw [hp] at hp2
    cases hp2
    exact ⟨rfl, rfl⟩
  obtain ⟨hx, hb, hml, hlk, hmn, hown, hts, hK, hO, hb0, hfr, hlo⟩ := C
  unfold am_x_astore at hst
  split at hst
  · split at hst
    · rename_i hlt
      simp only [am_go, Option.some.injEq, Sum.inl.injEq, Prod.mk.injEq] at hst
      obtain ⟨rfl, rfl, rfl, rfl⟩ := hst
      simp only [am_c_astore] at hck
      have hlt2 : q.2.1 < nL := Nat.lt_of_lt_of_le hlt hL.2.2.1
      split at hck
      · simp only [Bool.and_eq_true, List.any_eq_true, decide_eq_true_eq, am_de_iff] at hck
        obtain ⟨⟨k, -, hk, hd⟩, hnx⟩ := hck
        obtain ⟨q', hq'⟩ := am_nx_of hnx
        simp only [List.map_cons, am_v]
        exact lv_astore_n hx hb hd hk hL.has hlt2 rfl (fun real2 h2 => kk hn ht _ _ H locs real2 hq' hP hS (am_L.st1 hL.2.2.1 h2))
      · simp only [Bool.and_eq_true, decide_eq_true_eq, am_de_iff] at hck
        obtain ⟨hd, hnx⟩ := hck
        obtain ⟨q', hq'⟩ := am_nx_of hnx
        simp only [List.map_cons, am_v]
        exact lv_astore hx hb hd hL.has hlt2 rfl (fun real2 h2 => kk hn ht _ _ H locs real2 hq' hP hS (am_L.st1 hL.2.2.1 h2))
    · cases hst
  · split at hst
    · rename_i hlt
      simp only [am_go, Option.some.injEq, Sum.inl.injEq, Prod.mk.injEq] at hst
      obtain ⟨rfl, rfl, rfl, rfl⟩ := hst
      simp only [am_c_astore] at hck
      have hlt2 : q.2.1 < nL := Nat.lt_of_lt_of_le hlt hL.2.2.1
      split at hck
      · simp only [Bool.and_eq_true, List.any_eq_true, decide_eq_true_eq, am_de_iff] at hck
        obtain ⟨⟨k, -, hk, hd⟩, hnx⟩ := hck
        obtain ⟨q', hq'⟩ := am_nx_of hnx
        simp only [List.map_cons, am_v]
        cases hsv : sv _ with
        | none =>
          exact lv_astore_nN hx hb hd hk hL.has hlt2 rfl (fun real2 h2 => kk hn ht _ _ H locs real2 hq' hP hS (am_L.st1 hL.2.2.1 (by simp only [am_v, hsv, va_rf]; exact h2)))
        | some a => exact lv_astore_n hx hb hd hk hL.has hlt2 rfl (fun real2 h2 => kk hn ht _ _ H locs real2 hq' hP hS (am_L.st1 hL.2.2.1 (by simp only [am_v, hsv, va_rf]; exact h2)))
      · simp only [Bool.and_eq_true, decide_eq_true_eq, am_de_iff] at hck
        obtain ⟨hd, hnx⟩ := hck
        obtain ⟨q', hq'⟩ := am_nx_of hnx
        simp only [List.map_cons, am_v]
        cases hsv : sv _ with
        | none =>
          exact lv_astoreN hx hb hd hL.has hlt2 rfl (fun real2 h2 => kk hn ht _ _ H locs real2 hq' hP hS (am_L.st1 hL.2.2.1 (by simp only [am_v, hsv, va_rf]; exact h2)))
        | some a => exact lv_astore hx hb hd hL.has hlt2 rfl (fun real2 h2 => kk hn ht _ _ H locs real2 hq' hP hS (am_L.st1 hL.2.2.1 (by simp only [am_v, hsv, va_rf]; exact h2)))
    · cases hst
  · cases hst

set_option maxHeartbeats 1000000 in
theorem am_s_lstore (C : am_Cx X p R s mid args meth c D cid b0 n0 sv (am_rn on) mn cc fr lo nL) (hp : P[i]? = some (pc, q)) (hck : am_c_lstore G on mn cc rt fr lo P i pc q = true) (hst : am_x_lstore X q i ls st S = some (.inl (j, ls', st', S'))) (kk : am_At p l e R s mid args below meth c Q D cid b0 n0 t0 sv nL P j ls' st' S') : am_At p l e R s mid args below meth c Q D cid b0 n0 t0 sv nL P i ls st S := by
  intro hn ht pc2 q2 H locs real hp2 hP hS hL
  obtain ⟨rfl, rfl⟩ : pc = pc2 ∧ q = q2 := by
    rw [hp] at hp2
    cases hp2
    exact ⟨rfl, rfl⟩
  obtain ⟨hx, hb, hml, hlk, hmn, hown, hts, hK, hO, hb0, hfr, hlo⟩ := C
  unfold am_x_lstore at hst
  split at hst
  · split at hst
    · rename_i hlt
      simp only [am_go, Option.some.injEq, Sum.inl.injEq, Prod.mk.injEq] at hst
      obtain ⟨rfl, rfl, rfl, rfl⟩ := hst
      simp only [am_c_lstore] at hck
      have hlt2 : q.2.1 + 1 < nL := Nat.lt_of_lt_of_le hlt hL.2.2.1
      split at hck
      · simp only [Bool.and_eq_true, List.any_eq_true, decide_eq_true_eq, am_de_iff] at hck
        obtain ⟨⟨k, -, hk, hd⟩, hnx⟩ := hck
        obtain ⟨q', hq'⟩ := am_nx_of hnx
        simp only [List.map_cons, am_v]
        exact lv_lstore_n hx hb hd hk hL.has hlt2 rfl (fun real2 h2 => kk hn ht _ _ H locs real2 hq' hP hS (am_L.st2 hL.2.2.1 h2))
      · simp only [Bool.and_eq_true, decide_eq_true_eq, am_de_iff] at hck
        obtain ⟨hd, hnx⟩ := hck
        obtain ⟨q', hq'⟩ := am_nx_of hnx
        simp only [List.map_cons, am_v]
        exact lv_lstore hx hb hd hL.has hlt2 rfl (fun real2 h2 => kk hn ht _ _ H locs real2 hq' hP hS (am_L.st2 hL.2.2.1 h2))
    · cases hst
  · cases hst

theorem am_s_iinc (C : am_Cx X p R s mid args meth c D cid b0 n0 sv (am_rn on) mn cc fr lo nL) (hp : P[i]? = some (pc, q)) (hck : am_c_iinc G on mn cc rt fr lo P i pc q = true) (hst : am_x_iinc X q i ls st S = some (.inl (j, ls', st', S'))) (kk : am_At p l e R s mid args below meth c Q D cid b0 n0 t0 sv nL P j ls' st' S') : am_At p l e R s mid args below meth c Q D cid b0 n0 t0 sv nL P i ls st S := by
  intro hn ht pc2 q2 H locs real hp2 hP hS hL
  obtain ⟨rfl, rfl⟩ : pc = pc2 ∧ q = q2 := by
    rw [hp] at hp2
    cases hp2
    exact ⟨rfl, rfl⟩
  obtain ⟨hx, hb, hml, hlk, hmn, hown, hts, hK, hO, hb0, hfr, hlo⟩ := C
  simp only [am_c_iinc, Bool.and_eq_true, decide_eq_true_eq, am_de_iff] at hck
  obtain ⟨hd, hnx⟩ := hck
  obtain ⟨q', hq'⟩ := am_nx_of hnx
  unfold am_x_iinc at hst
  split at hst
  · rename_i x hx1
    simp only [am_go, Option.some.injEq, Sum.inl.injEq, Prod.mk.injEq] at hst
    obtain ⟨rfl, rfl, rfl, rfl⟩ := hst
    have hm : (q.2.1, am_v b0 sv (.int x)) ∈ am_lv b0 sv ls := am_lv_mem.mpr ⟨_, hx1, (fun h => by cases h), rfl⟩
    obtain ⟨k, hk⟩ := List.getElem?_of_mem hm
    have hlt : q.2.1 < nL := Nat.lt_of_lt_of_le (List.getElem?_eq_some_iff.mp hx1).1 hL.2.2.1
    exact lv_iinc hx hb hd hL.has hk rfl hlt rfl (fun real2 h2 => kk hn ht _ _ H locs real2 hq' hP hS (am_L.st1 hL.2.2.1 h2))
  · cases hst

theorem am_s_dup (C : am_Cx X p R s mid args meth c D cid b0 n0 sv (am_rn on) mn cc fr lo nL) (hp : P[i]? = some (pc, q)) (hck : am_c_dup G on mn cc rt fr lo P i pc q = true) (hst : am_x_dup X q i ls st S = some (.inl (j, ls', st', S'))) (kk : am_At p l e R s mid args below meth c Q D cid b0 n0 t0 sv nL P j ls' st' S') : am_At p l e R s mid args below meth c Q D cid b0 n0 t0 sv nL P i ls st S := by
  intro hn ht pc2 q2 H locs real hp2 hP hS hL
  obtain ⟨rfl, rfl⟩ : pc = pc2 ∧ q = q2 := by
    rw [hp] at hp2
    cases hp2
    exact ⟨rfl, rfl⟩
  obtain ⟨hx, hb, hml, hlk, hmn, hown, hts, hK, hO, hb0, hfr, hlo⟩ := C
  simp only [am_c_dup, Bool.and_eq_true, decide_eq_true_eq, am_de_iff] at hck
  obtain ⟨hd, hnx⟩ := hck
  obtain ⟨q', hq'⟩ := am_nx_of hnx
  unfold am_x_dup at hst
  split at hst
  · split at hst
    · rename_i hc
      simp only [am_go, Option.some.injEq, Sum.inl.injEq, Prod.mk.injEq] at hst
      obtain ⟨rfl, rfl, rfl, rfl⟩ := hst
      have K := kk hn ht _ _ H locs real hq' hP hS hL
      simp only [List.map_cons] at K ⊢
      exact lv_dup hx hb hd (am_v_cat.trans hc) K
    · cases hst
  · cases hst

theorem am_s_pop (C : am_Cx X p R s mid args meth c D cid b0 n0 sv (am_rn on) mn cc fr lo nL) (hp : P[i]? = some (pc, q)) (hck : am_c_pop G on mn cc rt fr lo P i pc q = true) (hst : am_x_pop X q i ls st S = some (.inl (j, ls', st', S'))) (kk : am_At p l e R s mid args below meth c Q D cid b0 n0 t0 sv nL P j ls' st' S') : am_At p l e R s mid args below meth c Q D cid b0 n0 t0 sv nL P i ls st S := by
  intro hn ht pc2 q2 H locs real hp2 hP hS hL
  obtain ⟨rfl, rfl⟩ : pc = pc2 ∧ q = q2 := by
    rw [hp] at hp2
    cases hp2
    exact ⟨rfl, rfl⟩
  obtain ⟨hx, hb, hml, hlk, hmn, hown, hts, hK, hO, hb0, hfr, hlo⟩ := C
  simp only [am_c_pop, Bool.and_eq_true, decide_eq_true_eq, am_de_iff] at hck
  obtain ⟨hd, hnx⟩ := hck
  obtain ⟨q', hq'⟩ := am_nx_of hnx
  unfold am_x_pop at hst
  split at hst
  · split at hst
    · rename_i hc
      simp only [am_go, Option.some.injEq, Sum.inl.injEq, Prod.mk.injEq] at hst
      obtain ⟨rfl, rfl, rfl, rfl⟩ := hst
      have K := kk hn ht _ _ H locs real hq' hP hS hL
      simp only [List.map_cons] at K ⊢
      exact lv_pop hx hb hd (am_v_cat.trans hc) K
    · cases hst
  · cases hst

theorem am_s_dup2 (C : am_Cx X p R s mid args meth c D cid b0 n0 sv (am_rn on) mn cc fr lo nL) (hp : P[i]? = some (pc, q)) (hck : am_c_dup2 G on mn cc rt fr lo P i pc q = true) (hst : am_x_dup2 X q i ls st S = some (.inl (j, ls', st', S'))) (kk : am_At p l e R s mid args below meth c Q D cid b0 n0 t0 sv nL P j ls' st' S') : am_At p l e R s mid args below meth c Q D cid b0 n0 t0 sv nL P i ls st S := by
  intro hn ht pc2 q2 H locs real hp2 hP hS hL
  obtain ⟨rfl, rfl⟩ : pc = pc2 ∧ q = q2 := by
    rw [hp] at hp2
    cases hp2
    exact ⟨rfl, rfl⟩
  obtain ⟨hx, hb, hml, hlk, hmn, hown, hts, hK, hO, hb0, hfr, hlo⟩ := C
  simp only [am_c_dup2, Bool.and_eq_true, decide_eq_true_eq, am_de_iff] at hck
  obtain ⟨hd, hnx⟩ := hck
  obtain ⟨q', hq'⟩ := am_nx_of hnx
  unfold am_x_dup2 at hst
  split at hst
  · split at hst
    · rename_i hc
      simp only [am_go, Option.some.injEq, Sum.inl.injEq, Prod.mk.injEq] at hst
      obtain ⟨rfl, rfl, rfl, rfl⟩ := hst
      have K := kk hn ht _ _ H locs real hq' hP hS hL
      simp only [List.map_cons] at K ⊢
      exact lv_dup2_11 hx hb hd (am_v_cat.trans hc.1) (am_v_cat.trans hc.2) K
    · cases hst
  · cases hst

set_option maxHeartbeats 2000000 in
theorem am_s_ifc (C : am_Cx X p R s mid args meth c D cid b0 n0 sv (am_rn on) mn cc fr lo nL) (hp : P[i]? = some (pc, q)) (hck : am_c_ifc G on mn cc rt fr lo P i pc q = true) (hst : am_x_ifc X q i ls st S = some (.inl (j, ls', st', S'))) (kk : am_At p l e R s mid args below meth c Q D cid b0 n0 t0 sv nL P j ls' st' S') : am_At p l e R s mid args below meth c Q D cid b0 n0 t0 sv nL P i ls st S := by
  intro hn ht pc2 q2 H locs real hp2 hP hS hL
  obtain ⟨rfl, rfl⟩ : pc = pc2 ∧ q = q2 := by
    rw [hp] at hp2
    cases hp2
    exact ⟨rfl, rfl⟩
  obtain ⟨hx, hb, hml, hlk, hmn, hown, hts, hK, hO, hb0, hfr, hlo⟩ := C
  simp only [am_c_ifc, Bool.and_eq_true, decide_eq_true_eq, am_de_iff] at hck
  obtain ⟨⟨hd, hnx⟩, htg⟩ := hck
  obtain ⟨q', hq'⟩ := am_nx_of hnx
  obtain ⟨tp, tq, htq, hoff⟩ := am_tg_of htg
  unfold am_x_ifc at hst
  split at hst
  · rename_i x r
    have Kt : am_cmp q.2.2.1 x 0 = true → W p l e R s mid args below meth c H locs (S.1.1 - n0) (S.1.2 - t0) Q (F0 mid tp real (r.map (am_v b0 sv))) := fun h => by
      rw [if_pos h] at hst
      simp only [am_go, Option.some.injEq, Sum.inl.injEq, Prod.mk.injEq] at hst
      obtain ⟨rfl, rfl, rfl, rfl⟩ := hst
      exact kk hn ht _ _ H locs real htq hP hS hL
    have Kf : ¬ am_cmp q.2.2.1 x 0 = true → W p l e R s mid args below meth c H locs (S.1.1 - n0) (S.1.2 - t0) Q (F0 mid (pc + 3) real (r.map (am_v b0 sv))) := fun h => by
      rw [if_neg h] at hst
      simp only [am_go, Option.some.injEq, Sum.inl.injEq, Prod.mk.injEq] at hst
      obtain ⟨rfl, rfl, rfl, rfl⟩ := hst
      exact kk hn ht _ _ H locs real hq' hP hS hL
    clear hst kk
    simp only [List.map_cons, am_v]
    generalize q.2.2.1 = bb at hd Kt Kf
    rcases bb with _ | _ | _ | _ | _ | bb
    · exact lv_if_eq hx hb hd hoff (fun h => Kt (by simpa [am_cmp] using h)) (fun h => Kf (by simpa [am_cmp] using h))
    · exact lv_if_ne hx hb hd hoff (fun h => Kt (by simpa [am_cmp] using h)) (fun h => Kf (by simpa [am_cmp] using h))
    · exact lv_if_lt hx hb hd hoff (fun h => Kt (by simpa [am_cmp] using h)) (fun h => Kf (by simpa [am_cmp] using h))
    · exact lv_if_ge hx hb hd hoff (fun h => Kt (by simpa [am_cmp] using h)) (fun h => Kf (by simpa [am_cmp] using h))
    · exact lv_if_gt hx hb hd hoff (fun h => Kt (by simpa [am_cmp] using h)) (fun h => Kf (by simpa [am_cmp] using h))
    · exact lv_if_le hx hb hd hoff (fun h => Kt (by simpa [am_cmp] using h)) (fun h => Kf (by simpa [am_cmp] using h))
  · cases hst

set_option maxHeartbeats 2000000 in
theorem am_s_icmp (C : am_Cx X p R s mid args meth c D cid b0 n0 sv (am_rn on) mn cc fr lo nL) (hp : P[i]? = some (pc, q)) (hck : am_c_icmp G on mn cc rt fr lo P i pc q = true) (hst : am_x_icmp X q i ls st S = some (.inl (j, ls', st', S'))) (kk : am_At p l e R s mid args below meth c Q D cid b0 n0 t0 sv nL P j ls' st' S') : am_At p l e R s mid args below meth c Q D cid b0 n0 t0 sv nL P i ls st S := by
  intro hn ht pc2 q2 H locs real hp2 hP hS hL
  obtain ⟨rfl, rfl⟩ : pc = pc2 ∧ q = q2 := by
    rw [hp] at hp2
    cases hp2
    exact ⟨rfl, rfl⟩
  obtain ⟨hx, hb, hml, hlk, hmn, hown, hts, hK, hO, hb0, hfr, hlo⟩ := C
  simp only [am_c_icmp, Bool.and_eq_true, decide_eq_true_eq, am_de_iff] at hck
  obtain ⟨⟨hd, hnx⟩, htg⟩ := hck
  obtain ⟨q', hq'⟩ := am_nx_of hnx
  obtain ⟨tp, tq, htq, hoff⟩ := am_tg_of htg
  unfold am_x_icmp at hst
  split at hst
  · rename_i y x r
    have Kt : am_cmp q.2.2.1 x y = true → W p l e R s mid args below meth c H locs (S.1.1 - n0) (S.1.2 - t0) Q (F0 mid tp real (r.map (am_v b0 sv))) := fun h => by
      rw [if_pos h] at hst
      simp only [am_go, Option.some.injEq, Sum.inl.injEq, Prod.mk.injEq] at hst
      obtain ⟨rfl, rfl, rfl, rfl⟩ := hst
      exact kk hn ht _ _ H locs real htq hP hS hL
    have Kf : ¬ am_cmp q.2.2.1 x y = true → W p l e R s mid args below meth c H locs (S.1.1 - n0) (S.1.2 - t0) Q (F0 mid (pc + 3) real (r.map (am_v b0 sv))) := fun h => by
      rw [if_neg h] at hst
      simp only [am_go, Option.some.injEq, Sum.inl.injEq, Prod.mk.injEq] at hst
      obtain ⟨rfl, rfl, rfl, rfl⟩ := hst
      exact kk hn ht _ _ H locs real hq' hP hS hL
    clear hst kk
    simp only [List.map_cons, am_v]
    generalize q.2.2.1 = bb at hd Kt Kf
    rcases bb with _ | _ | _ | _ | _ | bb
    · exact lv_icmp_eq hx hb hd hoff (fun h => Kt (by simpa [am_cmp] using h)) (fun h => Kf (by simpa [am_cmp] using h))
    · exact lv_icmp_ne hx hb hd hoff (fun h => Kt (by simpa [am_cmp] using h)) (fun h => Kf (by simpa [am_cmp] using h))
    · exact lv_icmp_lt hx hb hd hoff (fun h => Kt (by simpa [am_cmp] using h)) (fun h => Kf (by simpa [am_cmp] using h))
    · exact lv_icmp_ge hx hb hd hoff (fun h => Kt (by simpa [am_cmp] using h)) (fun h => Kf (by simpa [am_cmp] using h))
    · exact lv_icmp_gt hx hb hd hoff (fun h => Kt (by simpa [am_cmp] using h)) (fun h => Kf (by simpa [am_cmp] using h))
    · exact lv_icmp_le hx hb hd hoff (fun h => Kt (by simpa [am_cmp] using h)) (fun h => Kf (by simpa [am_cmp] using h))
  · cases hst

theorem am_s_goto (C : am_Cx X p R s mid args meth c D cid b0 n0 sv (am_rn on) mn cc fr lo nL) (hp : P[i]? = some (pc, q)) (hck : am_c_goto G on mn cc rt fr lo P i pc q = true) (hst : am_x_goto X q i ls st S = some (.inl (j, ls', st', S'))) (kk : am_At p l e R s mid args below meth c Q D cid b0 n0 t0 sv nL P j ls' st' S') : am_At p l e R s mid args below meth c Q D cid b0 n0 t0 sv nL P i ls st S := by
  intro hn ht pc2 q2 H locs real hp2 hP hS hL
  obtain ⟨rfl, rfl⟩ : pc = pc2 ∧ q = q2 := by
    rw [hp] at hp2
    cases hp2
    exact ⟨rfl, rfl⟩
  obtain ⟨hx, hb, hml, hlk, hmn, hown, hts, hK, hO, hb0, hfr, hlo⟩ := C
  simp only [am_c_goto, Bool.and_eq_true, decide_eq_true_eq, am_de_iff] at hck
  obtain ⟨hd, htg⟩ := hck
  obtain ⟨tp, tq, htq, hoff⟩ := am_tg_of htg
  unfold am_x_goto at hst
  simp only [am_go, Option.some.injEq, Sum.inl.injEq, Prod.mk.injEq] at hst
  obtain ⟨rfl, rfl, rfl, rfl⟩ := hst
  exact lv_goto hx hb hd hoff (kk hn ht _ _ H locs real htq hP hS hL)

theorem am_s_tsw (C : am_Cx X p R s mid args meth c D cid b0 n0 sv (am_rn on) mn cc fr lo nL) (hp : P[i]? = some (pc, q)) (hck : am_c_tsw G on mn cc rt fr lo P i pc q = true) (hst : am_x_tsw X q i ls st S = some (.inl (j, ls', st', S'))) (kk : am_At p l e R s mid args below meth c Q D cid b0 n0 t0 sv nL P j ls' st' S') : am_At p l e R s mid args below meth c Q D cid b0 n0 t0 sv nL P i ls st S := by
  intro hn ht pc2 q2 H locs real hp2 hP hS hL
  obtain ⟨rfl, rfl⟩ : pc = pc2 ∧ q = q2 := by
    rw [hp] at hp2
    cases hp2
    exact ⟨rfl, rfl⟩
  obtain ⟨hx, hb, hml, hlk, hmn, hown, hts, hK, hO, hb0, hfr, hlo⟩ := C
  simp only [am_c_tsw, Bool.and_eq_true, decide_eq_true_eq, List.all_eq_true, am_de_iff] at hck
  obtain ⟨⟨hd, htg⟩, hall⟩ := hck
  unfold am_x_tsw at hst
  split at hst
  · rename_i x r
    simp only [List.map_cons, am_v]
    split at hst
    · rename_i hc
      simp only [am_go, Option.some.injEq, Sum.inl.injEq, Prod.mk.injEq] at hst
      obtain ⟨rfl, rfl, rfl, rfl⟩ := hst
      obtain ⟨tp, tq, htq, hoff⟩ := am_tg_of htg
      exact lv_tableOut hx hb hd (by omega) hoff (kk hn ht _ _ H locs real htq hP hS hL)
    · rename_i hc
      split at hst
      · rename_i t' ht'
        simp only [am_go, Option.some.injEq, Sum.inl.injEq, Prod.mk.injEq] at hst
        obtain ⟨rfl, rfl, rfl, rfl⟩ := hst
        obtain ⟨tp, tq, htq, hoff⟩ := am_tg_of (hall _ (List.mem_of_getElem? ht'))
        refine lv_tableIn hx hb hd (by omega) (by omega) ?_ hoff (kk hn ht _ _ H locs real htq hP hS hL)
        simp [ht']
      · cases hst
  · cases hst

theorem am_good {ws : List Cond} (h : GoodIn lw_tbl ws) (hg : ws.all goodWord = true) : ∀ w ∈ ws, w ∈ am_w := fun w hw => List.mem_filter.mpr ⟨(h w hw).1, List.all_eq_true.mp hg w hw⟩
theorem am_inw {ci : Nat} (h : ci < 13) : ∀ w ∈ u_ws (am_rn ci) (am_fd ci) (am_nf ci), w ∈ am_w := by
  match ci, h with
  | 0, _ => exact am_good am_in0 (by decide +kernel)
  | 1, _ => exact am_good am_in1 (by decide +kernel)
  | 2, _ => exact am_good am_in2 (by decide +kernel)
  | 3, _ => exact am_good am_in3 (by decide +kernel)
  | 4, _ => exact am_good am_in4 (by decide +kernel)
  | 5, _ => exact am_good am_in5 (by decide +kernel)
  | 6, _ => exact am_good am_in6 (by decide +kernel)
  | 7, _ => exact am_good am_in7 (by decide +kernel)
  | 8, _ => exact am_good am_in8 (by decide +kernel)
  | 9, _ => exact am_good am_in9 (by decide +kernel)
  | 10, _ => exact am_good am_in10 (by decide +kernel)
  | 11, _ => exact am_good am_in11 (by decide +kernel)
  | 12, _ => exact am_good am_in12 (by decide +kernel)
  | n + 13, h => exact absurd h (by omega)
theorem am_clw {ci : Nat} (h : ci < 13) : vwCl[ci]? = some (am_rn ci, am_fd ci, am_nf ci) := by
  match ci, h with
  | 0, _ => rfl
  | 1, _ => rfl
  | 2, _ => rfl
  | 3, _ => rfl
  | 4, _ => rfl
  | 5, _ => rfl
  | 6, _ => rfl
  | 7, _ => rfl
  | 8, _ => rfl
  | 9, _ => rfl
  | 10, _ => rfl
  | 11, _ => rfl
  | 12, _ => rfl
  | n + 13, h => exact absurd h (by omega)
theorem am_tyw {ci : Nat} (h : ci < 13) : ∀ k, k < am_nf ci → parseFieldDescriptor (am_fd ci k).2.2.1 = some (am_ft ci k) := by
  match ci, h with
  | 0, _ => exact tyX0_ok
  | 1, _ => exact tyX1_ok
  | 2, _ => exact tyX2_ok
  | 3, _ => exact tyX3_ok
  | 4, _ => exact tyX4_ok
  | 5, _ => exact tyX5_ok
  | 6, _ => exact tyX6_ok
  | 7, _ => exact tyX7_ok
  | 8, _ => exact tyX8_ok
  | 9, _ => exact tyX9_ok
  | 10, _ => exact tyX10_ok
  | 11, _ => exact tyX11_ok
  | 12, _ => exact tyX12_ok
  | n + 13, h => exact absurd h (by omega)
theorem am_nmw {ci : Nat} (h : ci < 13) : ∀ a, a < am_nf ci → ∀ b, b < am_nf ci → a ≠ b → (am_fd ci a).2.1 ≠ (am_fd ci b).2.1 := by
  match ci, h with
  | 0, _ => exact nmX0
  | 1, _ => exact nmX1
  | 2, _ => exact nmX2
  | 3, _ => exact nmX3
  | 4, _ => exact nmX4
  | 5, _ => exact nmX5
  | 6, _ => exact nmX6
  | 7, _ => exact nmX7
  | 8, _ => exact nmX8
  | 9, _ => exact nmX9
  | 10, _ => exact nmX10
  | 11, _ => exact nmX11
  | 12, _ => exact nmX12
  | n + 13, h => exact absurd h (by omega)
theorem am_FL_okb : (List.range am_FL.length).all (fun e => match am_FL[e]?, am_FLp[e]? with
  | some x, some p => am_has [p] 0 (.fieldLink (am_rn x.1) x.2.1 (am_fd x.2.2.1 x.2.2.2).1 (am_fd x.2.2.1 x.2.2.2).2.1 (am_fd x.2.2.1 x.2.2.2).2.2.1)
  | _, _ => false) = true := by decide +kernel
theorem am_fl_of {on index ci k : Nat} {ts : List Nat} (h : am_fl on index ci k ts = true) : ci < 13 ∧ k < am_nf ci ∧ Cond.fieldLink (am_rn on) index (am_fd ci k).1 (am_fd ci k).2.1 (am_fd ci k).2.2.1 ∈ am_w ∧ (∀ w ∈ u_ws (am_rn ci) (am_fd ci) (am_nf ci), w ∈ am_w) ∧ vwCl[ci]? = some (am_rn ci, am_fd ci, am_nf ci) := by
  simp only [am_fl, Bool.and_eq_true, decide_eq_true_eq, am_de_iff] at h
  obtain ⟨⟨h1, h2⟩, h3⟩ := h
  refine ⟨h1, h2, ?_, am_inw h1, am_clw h1⟩
  obtain ⟨e, -, he⟩ := Option.bind_eq_some_iff.mp h3
  have h4 := List.all_eq_true.mp am_FL_okb e (List.mem_range.mpr (List.getElem?_eq_some_iff.mp he).1)
  rw [he] at h4
  cases hp : am_FLp[e]? with
  | none => rw [hp] at h4; cases h4
  | some p =>
    rw [hp] at h4
    exact am_has_mem h4
theorem am_fv_eq {S : am_S} {a ci k b0 : Nat} {sv : Nat → Option Nat} (h : ¬ am_fv S a ci k = .null) : am_v b0 sv (am_fv S a ci k) = if am_rt (am_ft ci k) = true then va_rf (am_mp b0 (S.2.2.2.2 a k)) else .int (S.2.2.1 a k) := by
  unfold am_fv at h ⊢
  split
  · rename_i hr
    rw [if_pos hr] at h
    cases hv : S.2.2.2.2 a k with
    | none => rw [hv] at h; exact absurd rfl h
    | some v => rfl
  · rfl

set_option maxHeartbeats 1000000 in
theorem am_s_getf (C : am_Cx X p R s mid args meth c D cid b0 n0 sv (am_rn on) mn cc fr lo nL) (hp : P[i]? = some (pc, q)) (hck : am_c_getf G on mn cc rt fr lo P i pc q = true) (hst : am_x_getf X q i ls st S = some (.inl (j, ls', st', S'))) (kk : am_At p l e R s mid args below meth c Q D cid b0 n0 t0 sv nL P j ls' st' S') : am_At p l e R s mid args below meth c Q D cid b0 n0 t0 sv nL P i ls st S := by
  intro hn ht pc2 q2 H locs real hp2 hP hS hL
  obtain ⟨rfl, rfl⟩ : pc = pc2 ∧ q = q2 := by
    rw [hp] at hp2
    cases hp2
    exact ⟨rfl, rfl⟩
  obtain ⟨hx, hb, hml, hlk, hmn, hown, hts, hK, hO, hb0, hfr, hlo⟩ := C
  simp only [am_c_getf, Bool.and_eq_true, decide_eq_true_eq, am_de_iff] at hck
  obtain ⟨⟨hd, hnx⟩, hfl⟩ := hck
  obtain ⟨q', hq'⟩ := am_nx_of hnx
  unfold am_x_getf at hst
  split at hst
  · rename_i a r
    split at hst
    · rename_i hc
      obtain ⟨ha, hk, hkn⟩ := hc
      split at hst
      · cases hst
      · rename_i hnn
        simp only [am_go, Option.some.injEq, Sum.inl.injEq, Prod.mk.injEq] at hst
        obtain ⟨rfl, rfl, rfl, rfl⟩ := hst
        have K := kk hn ht _ _ H locs real hq' hP hS hL
        simp only [List.map_cons] at K ⊢
        have hfl2 := am_fl_of hfl
        obtain ⟨hci, hkf, hlink, hin, hcl⟩ := hfl2
        have he := am_ws_at (b0 := b0) (cid := cid) ha
        rw [am_e_kO (by rw [hk]; exact hci), hk] at he
        have hv := am_fs_at (b0 := b0) (S := S) (c := a) (t := q.2.1) hkn
        refine va_get (D := D) (ci := q.2.1) (C := am_rn q.2.1) (T := am_fd q.2.1) (N := am_nf q.2.1) hx hb hts hin hown hK hP a he hcl q.2.2.1 hkf (hts _ hlink) (fun _ h9 => h9) hv hd ?_
        rw [am_fv_eq hnn] at K
        exact K
    · cases hst
  · cases hst

set_option maxHeartbeats 1000000 in
theorem am_s_putf (C : am_Cx X p R s mid args meth c D cid b0 n0 sv (am_rn on) mn cc fr lo nL) (hp : P[i]? = some (pc, q)) (hck : am_c_putf G on mn cc rt fr lo P i pc q = true) (hst : am_x_putf X q i ls st S = some (.inl (j, ls', st', S'))) (kk : am_At p l e R s mid args below meth c Q D cid b0 n0 t0 sv nL P j ls' st' S') : am_At p l e R s mid args below meth c Q D cid b0 n0 t0 sv nL P i ls st S := by
  intro hn ht pc2 q2 H locs real hp2 hP hS hL
  obtain ⟨rfl, rfl⟩ : pc = pc2 ∧ q = q2 := by
    rw [hp] at hp2
    cases hp2
    exact ⟨rfl, rfl⟩
  obtain ⟨hx, hb, hml, hlk, hmn, hown, hts, hK, hO, hb0, hfr, hlo⟩ := C
  simp only [am_c_putf, Bool.and_eq_true, decide_eq_true_eq, am_de_iff] at hck
  obtain ⟨⟨⟨⟨hd, hnx⟩, hfl⟩, hfin⟩, hty⟩ := hck
  obtain ⟨q', hq'⟩ := am_nx_of hnx
  unfold am_x_putf at hst
  split at hst
  · rename_i x a r
    split at hst
    · rename_i hc
      obtain ⟨ha, hk, hkn, hnar, hfit⟩ := hc
      simp only [am_go, Option.some.injEq, Sum.inl.injEq, Prod.mk.injEq] at hst
      obtain ⟨rfl, rfl, rfl, rfl⟩ := hst
      obtain ⟨hci, hkf, hlink, hin, hcl⟩ := am_fl_of hfl
      have he := am_ws_at (b0 := b0) (cid := cid) ha
      rw [am_e_kO (by rw [hk]; exact hci), hk] at he
      simp only [List.map_cons, am_v]
      have hfin2 : (am_fd q.2.1 q.2.2.1).2.2.2 = false := by simpa using hfin
      have hty2 : am_ft q.2.1 q.2.2.1 = .int ∨ am_ft q.2.1 q.2.2.1 = .boolean := by simpa using hty
      have hrt : am_rt (am_ft q.2.1 q.2.2.1) = false := by rcases hty2 with h | h <;> rw [h] <;> rfl
      refine va_put (D := D) (ci := q.2.1) (C := am_rn q.2.1) (T := am_fd q.2.1) (N := am_nf q.2.1) hx hb hts hin (am_ft q.2.1) (am_tyw hci) (am_nmw hci) hown hK hP am_ws_D hS a he hcl q.2.2.1 hkf (hts _ hlink) (fun _ h9 => h9) hfin2 (am_tyw hci _ hkf) hnar hfit (by rw [am_fs_len]; exact hkn) hd (fun H1 locs1 hP1 _ hS1 => ?_)
      rw [am_fs_setI hrt, am_ws_set (S := S) (S' := am_setI S a q.2.2.1 x) rfl ha (by rw [am_e_kO (by show (S.2.1 a).1 < 13; rw [hk]; exact hci)]; show Sum.inr ((S.2.1 a).1, am_fs b0 _ a (S.2.1 a).1 (S.2.1 a).2) = _; rw [hk]) (fun k hka => am_e_ne rfl (am_up_ne hka) rfl rfl)] at hP1
      exact kk hn ht _ _ H1 locs1 real hq' hP1 hS1 hL
    · cases hst
  · cases hst

set_option maxHeartbeats 1000000 in
theorem am_s_putr (C : am_Cx X p R s mid args meth c D cid b0 n0 sv (am_rn on) mn cc fr lo nL) (hp : P[i]? = some (pc, q)) (hck : am_c_putr G on mn cc rt fr lo P i pc q = true) (hst : am_x_putr X q i ls st S = some (.inl (j, ls', st', S'))) (kk : am_At p l e R s mid args below meth c Q D cid b0 n0 t0 sv nL P j ls' st' S') : am_At p l e R s mid args below meth c Q D cid b0 n0 t0 sv nL P i ls st S := by
  intro hn ht pc2 q2 H locs real hp2 hP hS hL
  obtain ⟨rfl, rfl⟩ : pc = pc2 ∧ q = q2 := by
    rw [hp] at hp2
    cases hp2
    exact ⟨rfl, rfl⟩
  obtain ⟨hx, hb, hml, hlk, hmn, hown, hts, hK, hO, hb0, hfr, hlo⟩ := C
  simp only [am_c_putr, Bool.and_eq_true, decide_eq_true_eq, am_de_iff] at hck
  obtain ⟨⟨⟨⟨⟨⟨hd, hnx⟩, hfl⟩, hfin⟩, hdc⟩, hini⟩, hrt⟩ := hck
  obtain ⟨q', hq'⟩ := am_nx_of hnx
  unfold am_x_putr at hst
  split at hst
  · rename_i x a r
    split at hst
    · rename_i hc
      obtain ⟨ha, hk, hkn⟩ := hc
      simp only [am_go, Option.some.injEq, Sum.inl.injEq, Prod.mk.injEq] at hst
      obtain ⟨rfl, rfl, rfl, rfl⟩ := hst
      obtain ⟨hci, hkf, hlink, hin, hcl⟩ := am_fl_of hfl
      have he := am_ws_at (b0 := b0) (cid := cid) ha
      rw [am_e_kO (by rw [hk]; exact hci), hk] at he
      simp only [List.map_cons, am_v]
      have hfin2 : (am_fd q.2.1 q.2.2.1).2.2.2 = true := by simpa using hfin
      have hdc2 : (am_fd q.2.1 q.2.2.1).1 = am_rn on := by simpa using hdc
      have hini2 : meth.name = "<init>" := by rw [hmn]; simpa using hini
      have hnf : narrow (am_ft q.2.1 q.2.2.1) (.ref (b0 + x)) = .ref (b0 + x) ∧ fits (am_ft q.2.1 q.2.2.1) (.ref (b0 + x)) = true := by
        cases hf : am_ft q.2.1 q.2.2.1 <;> rw [hf] at hrt <;> first | (exact ⟨rfl, rfl⟩) | (cases hrt)
      refine va_putF (D := D) (ci := q.2.1) (C := am_rn q.2.1) (T := am_fd q.2.1) (N := am_nf q.2.1) hx hb hts hin (am_ft q.2.1) (am_tyw hci) (am_nmw hci) hown hK hP am_ws_D hS a he hcl q.2.2.1 hkf (hts _ hlink) (fun _ h9 => h9) hfin2 hini2 hdc2 (am_tyw hci _ hkf) hnf.1 hnf.2 (by rw [am_fs_len]; exact hkn) hd (fun H1 locs1 hP1 _ hS1 => ?_)
      rw [am_fs_setR hrt, am_ws_set (S := S) (S' := am_setR S a q.2.2.1 x) rfl ha (by rw [am_e_kO (by show (S.2.1 a).1 < 13; rw [hk]; exact hci)]; show Sum.inr ((S.2.1 a).1, am_fs b0 _ a (S.2.1 a).1 (S.2.1 a).2) = _; rw [hk]) (fun k hka => am_e_ne rfl rfl rfl (am_up_ne hka))] at hP1
      exact kk hn ht _ _ H1 locs1 real hq' hP1 hS1 hL
    · cases hst
  · cases hst

set_option maxHeartbeats 1000000 in
theorem am_s_iald (C : am_Cx X p R s mid args meth c D cid b0 n0 sv (am_rn on) mn cc fr lo nL) (hp : P[i]? = some (pc, q)) (hck : am_c_iald G on mn cc rt fr lo P i pc q = true) (hst : am_x_iald X q i ls st S = some (.inl (j, ls', st', S'))) (kk : am_At p l e R s mid args below meth c Q D cid b0 n0 t0 sv nL P j ls' st' S') : am_At p l e R s mid args below meth c Q D cid b0 n0 t0 sv nL P i ls st S := by
  intro hn ht pc2 q2 H locs real hp2 hP hS hL
  obtain ⟨rfl, rfl⟩ : pc = pc2 ∧ q = q2 := by
    rw [hp] at hp2
    cases hp2
    exact ⟨rfl, rfl⟩
  obtain ⟨hx, hb, hml, hlk, hmn, hown, hts, hK, hO, hb0, hfr, hlo⟩ := C
  simp only [am_c_iald, Bool.and_eq_true, decide_eq_true_eq, am_de_iff] at hck
  obtain ⟨hd, hnx⟩ := hck
  obtain ⟨q', hq'⟩ := am_nx_of hnx
  unfold am_x_iald at hst
  split at hst
  · rename_i j2 a r
    split at hst
    · rename_i hc
      obtain ⟨ha, hk, hin⟩ := hc
      simp only [am_go, Option.some.injEq, Sum.inl.injEq, Prod.mk.injEq] at hst
      obtain ⟨rfl, rfl, rfl, rfl⟩ := hst
      have K := kk hn ht _ _ H locs real hq' hP hS hL
      simp only [List.map_cons, am_v] at K ⊢
      have he := am_ws_at (b0 := b0) (cid := cid) ha
      rw [am_e_kI (Or.inl hk), hk] at he
      exact va_iald hx hb hK hP a 0 he rfl hin hd K
    · cases hst
  · rename_i j2 t' r
    split at hst
    · rename_i hc
      obtain ⟨htt, hin⟩ := hc
      simp only [am_go, Option.some.injEq, Sum.inl.injEq, Prod.mk.injEq] at hst
      obtain ⟨rfl, rfl, rfl, rfl⟩ := hst
      have K := kk hn ht _ _ H locs real hq' hP hS hL
      simp only [List.map_cons, am_v] at K ⊢
      rcases htt with rfl | rfl
      · obtain ⟨oa, hsv, -, hT⟩ := hO.1
        rw [hsv]
        exact va_ti hx hb hT hS hin rfl hd K
      · obtain ⟨oa, hsv, hT⟩ := hO.2.2.2.2.1
        rw [hsv]
        exact va_ti hx hb hT hS hin rfl hd K
    · cases hst
  · cases hst

set_option maxHeartbeats 1000000 in
theorem am_s_zald (C : am_Cx X p R s mid args meth c D cid b0 n0 sv (am_rn on) mn cc fr lo nL) (hp : P[i]? = some (pc, q)) (hck : am_c_zald G on mn cc rt fr lo P i pc q = true) (hst : am_x_zald X q i ls st S = some (.inl (j, ls', st', S'))) (kk : am_At p l e R s mid args below meth c Q D cid b0 n0 t0 sv nL P j ls' st' S') : am_At p l e R s mid args below meth c Q D cid b0 n0 t0 sv nL P i ls st S := by
  intro hn ht pc2 q2 H locs real hp2 hP hS hL
  obtain ⟨rfl, rfl⟩ : pc = pc2 ∧ q = q2 := by
    rw [hp] at hp2
    cases hp2
    exact ⟨rfl, rfl⟩
  obtain ⟨hx, hb, hml, hlk, hmn, hown, hts, hK, hO, hb0, hfr, hlo⟩ := C
  simp only [am_c_zald, Bool.and_eq_true, decide_eq_true_eq, am_de_iff] at hck
  obtain ⟨hd, hnx⟩ := hck
  obtain ⟨q', hq'⟩ := am_nx_of hnx
  unfold am_x_zald at hst
  split at hst
  · rename_i j2 a r
    split at hst
    · rename_i hc
      obtain ⟨ha, hk, hin⟩ := hc
      simp only [am_go, Option.some.injEq, Sum.inl.injEq, Prod.mk.injEq] at hst
      obtain ⟨rfl, rfl, rfl, rfl⟩ := hst
      have K := kk hn ht _ _ H locs real hq' hP hS hL
      simp only [List.map_cons, am_v] at K ⊢
      have he := am_ws_at (b0 := b0) (cid := cid) ha
      rw [am_e_kI (Or.inr hk), hk] at he
      exact va_zald hx hb hK hP a 1 he rfl hin hd K
    · cases hst
  · rename_i j2 t' r
    split at hst
    · rename_i hc
      obtain ⟨rfl, hin⟩ := hc
      simp only [am_go, Option.some.injEq, Sum.inl.injEq, Prod.mk.injEq] at hst
      obtain ⟨rfl, rfl, rfl, rfl⟩ := hst
      have K := kk hn ht _ _ H locs real hq' hP hS hL
      simp only [List.map_cons, am_v] at K ⊢
      obtain ⟨ka, kv, -, hsv, -, -, -, -, hT⟩ := hO.2.2.2.1
      rw [hsv]
      exact va_tb hx hb hT hS hin rfl hd K
    · cases hst
  · cases hst

set_option maxHeartbeats 1000000 in
theorem am_s_lald (C : am_Cx X p R s mid args meth c D cid b0 n0 sv (am_rn on) mn cc fr lo nL) (hp : P[i]? = some (pc, q)) (hck : am_c_lald G on mn cc rt fr lo P i pc q = true) (hst : am_x_lald X q i ls st S = some (.inl (j, ls', st', S'))) (kk : am_At p l e R s mid args below meth c Q D cid b0 n0 t0 sv nL P j ls' st' S') : am_At p l e R s mid args below meth c Q D cid b0 n0 t0 sv nL P i ls st S := by
  intro hn ht pc2 q2 H locs real hp2 hP hS hL
  obtain ⟨rfl, rfl⟩ : pc = pc2 ∧ q = q2 := by
    rw [hp] at hp2
    cases hp2
    exact ⟨rfl, rfl⟩
  obtain ⟨hx, hb, hml, hlk, hmn, hown, hts, hK, hO, hb0, hfr, hlo⟩ := C
  simp only [am_c_lald, Bool.and_eq_true, decide_eq_true_eq, am_de_iff] at hck
  obtain ⟨hd, hnx⟩ := hck
  obtain ⟨q', hq'⟩ := am_nx_of hnx
  unfold am_x_lald at hst
  split at hst
  · rename_i j2 a r
    split at hst
    · rename_i hc
      obtain ⟨ha, hk, hin⟩ := hc
      simp only [am_go, Option.some.injEq, Sum.inl.injEq, Prod.mk.injEq] at hst
      obtain ⟨rfl, rfl, rfl, rfl⟩ := hst
      have K := kk hn ht _ _ H locs real hq' hP hS hL
      simp only [List.map_cons, am_v] at K ⊢
      have he := am_ws_at (b0 := b0) (cid := cid) ha
      rw [am_e_kJ hk] at he
      exact va_lald hx hb hK hP a 2 he rfl hin hd K
    · cases hst
  · cases hst

set_option maxHeartbeats 1000000 in
theorem am_s_iast (C : am_Cx X p R s mid args meth c D cid b0 n0 sv (am_rn on) mn cc fr lo nL) (hp : P[i]? = some (pc, q)) (hck : am_c_iast G on mn cc rt fr lo P i pc q = true) (hst : am_x_iast X q i ls st S = some (.inl (j, ls', st', S'))) (kk : am_At p l e R s mid args below meth c Q D cid b0 n0 t0 sv nL P j ls' st' S') : am_At p l e R s mid args below meth c Q D cid b0 n0 t0 sv nL P i ls st S := by
  intro hn ht pc2 q2 H locs real hp2 hP hS hL
  obtain ⟨rfl, rfl⟩ : pc = pc2 ∧ q = q2 := by
    rw [hp] at hp2
    cases hp2
    exact ⟨rfl, rfl⟩
  obtain ⟨hx, hb, hml, hlk, hmn, hown, hts, hK, hO, hb0, hfr, hlo⟩ := C
  simp only [am_c_iast, Bool.and_eq_true, decide_eq_true_eq, am_de_iff] at hck
  obtain ⟨hd, hnx⟩ := hck
  obtain ⟨q', hq'⟩ := am_nx_of hnx
  unfold am_x_iast at hst
  split at hst
  · rename_i x j2 a r
    split at hst
    · rename_i hc
      obtain ⟨ha, hk, hin⟩ := hc
      simp only [am_go, Option.some.injEq, Sum.inl.injEq, Prod.mk.injEq] at hst
      obtain ⟨rfl, rfl, rfl, rfl⟩ := hst
      simp only [List.map_cons, am_v]
      have he := am_ws_at (b0 := b0) (cid := cid) ha
      rw [am_e_kI (Or.inl hk), hk] at he
      refine va_iast hx hb hK hP am_ws_D hS a 0 he rfl hin hd (fun H1 locs1 hP1 _ hS1 => ?_)
      rw [am_ws_set (S := S) (S' := am_setI S a j2.toNatClampNeg x) rfl ha (by rw [am_e_kI (S := am_setI S a j2.toNatClampNeg x) (Or.inl hk)]; show Sum.inl (cid (S.2.1 a).1, (S.2.1 a).2, Sum.inl (am_up S.2.2.1 a j2.toNatClampNeg x a)) = _; rw [am_up_I, hk]) (fun k hka => am_e_ne rfl (am_up_ne hka) rfl rfl)] at hP1
      exact kk hn ht _ _ H1 locs1 real hq' hP1 hS1 hL
    · cases hst
  · cases hst

set_option maxHeartbeats 1000000 in
theorem am_s_zast (C : am_Cx X p R s mid args meth c D cid b0 n0 sv (am_rn on) mn cc fr lo nL) (hp : P[i]? = some (pc, q)) (hck : am_c_zast G on mn cc rt fr lo P i pc q = true) (hst : am_x_zast X q i ls st S = some (.inl (j, ls', st', S'))) (kk : am_At p l e R s mid args below meth c Q D cid b0 n0 t0 sv nL P j ls' st' S') : am_At p l e R s mid args below meth c Q D cid b0 n0 t0 sv nL P i ls st S := by
  intro hn ht pc2 q2 H locs real hp2 hP hS hL
  obtain ⟨rfl, rfl⟩ : pc = pc2 ∧ q = q2 := by
    rw [hp] at hp2
    cases hp2
    exact ⟨rfl, rfl⟩
  obtain ⟨hx, hb, hml, hlk, hmn, hown, hts, hK, hO, hb0, hfr, hlo⟩ := C
  simp only [am_c_zast, Bool.and_eq_true, decide_eq_true_eq, am_de_iff] at hck
  obtain ⟨hd, hnx⟩ := hck
  obtain ⟨q', hq'⟩ := am_nx_of hnx
  unfold am_x_zast at hst
  split at hst
  · rename_i x j2 a r
    split at hst
    · rename_i hc
      obtain ⟨ha, hk, hin, hnb⟩ := hc
      simp only [am_go, Option.some.injEq, Sum.inl.injEq, Prod.mk.injEq] at hst
      obtain ⟨rfl, rfl, rfl, rfl⟩ := hst
      simp only [List.map_cons, am_v]
      have he := am_ws_at (b0 := b0) (cid := cid) ha
      rw [am_e_kI (Or.inr hk), hk] at he
      refine va_zast hx hb hK hP am_ws_D hS a 1 he rfl hin hd (fun H1 locs1 hP1 _ hS1 => ?_)
      rw [hnb, am_ws_set (S := S) (S' := am_setI S a j2.toNatClampNeg x) rfl ha (by rw [am_e_kI (S := am_setI S a j2.toNatClampNeg x) (Or.inr hk)]; show Sum.inl (cid (S.2.1 a).1, (S.2.1 a).2, Sum.inl (am_up S.2.2.1 a j2.toNatClampNeg x a)) = _; rw [am_up_I, hk]) (fun k hka => am_e_ne rfl (am_up_ne hka) rfl rfl)] at hP1
      exact kk hn ht _ _ H1 locs1 real hq' hP1 hS1 hL
    · cases hst
  · cases hst

set_option maxHeartbeats 1000000 in
theorem am_s_last (C : am_Cx X p R s mid args meth c D cid b0 n0 sv (am_rn on) mn cc fr lo nL) (hp : P[i]? = some (pc, q)) (hck : am_c_last G on mn cc rt fr lo P i pc q = true) (hst : am_x_last X q i ls st S = some (.inl (j, ls', st', S'))) (kk : am_At p l e R s mid args below meth c Q D cid b0 n0 t0 sv nL P j ls' st' S') : am_At p l e R s mid args below meth c Q D cid b0 n0 t0 sv nL P i ls st S := by
  intro hn ht pc2 q2 H locs real hp2 hP hS hL
  obtain ⟨rfl, rfl⟩ : pc = pc2 ∧ q = q2 := by
    rw [hp] at hp2
    cases hp2
    exact ⟨rfl, rfl⟩
  obtain ⟨hx, hb, hml, hlk, hmn, hown, hts, hK, hO, hb0, hfr, hlo⟩ := C
  simp only [am_c_last, Bool.and_eq_true, decide_eq_true_eq, am_de_iff] at hck
  obtain ⟨hd, hnx⟩ := hck
  obtain ⟨q', hq'⟩ := am_nx_of hnx
  unfold am_x_last at hst
  split at hst
  · rename_i x j2 a r
    split at hst
    · rename_i hc
      obtain ⟨ha, hk, hin⟩ := hc
      simp only [am_go, Option.some.injEq, Sum.inl.injEq, Prod.mk.injEq] at hst
      obtain ⟨rfl, rfl, rfl, rfl⟩ := hst
      simp only [List.map_cons, am_v]
      have he := am_ws_at (b0 := b0) (cid := cid) ha
      rw [am_e_kJ hk] at he
      refine va_last hx hb hK hP am_ws_D hS a 2 he rfl hin hd (fun H1 locs1 hP1 _ hS1 => ?_)
      rw [am_ws_set (S := S) (S' := am_setJ S a j2.toNatClampNeg x) rfl ha (by rw [am_e_kJ (S := am_setJ S a j2.toNatClampNeg x) hk]; show Sum.inl (cid 22, (S.2.1 a).2, Sum.inr (Sum.inl (am_up S.2.2.2.1 a j2.toNatClampNeg x a))) = _; rw [am_up_J]) (fun k hka => am_e_ne rfl rfl (am_up_ne hka) rfl)] at hP1
      exact kk hn ht _ _ H1 locs1 real hq' hP1 hS1 hL
    · cases hst
  · cases hst

set_option maxHeartbeats 1000000 in
theorem am_s_alen (C : am_Cx X p R s mid args meth c D cid b0 n0 sv (am_rn on) mn cc fr lo nL) (hp : P[i]? = some (pc, q)) (hck : am_c_alen G on mn cc rt fr lo P i pc q = true) (hst : am_x_alen X q i ls st S = some (.inl (j, ls', st', S'))) (kk : am_At p l e R s mid args below meth c Q D cid b0 n0 t0 sv nL P j ls' st' S') : am_At p l e R s mid args below meth c Q D cid b0 n0 t0 sv nL P i ls st S := by
  intro hn ht pc2 q2 H locs real hp2 hP hS hL
  obtain ⟨rfl, rfl⟩ : pc = pc2 ∧ q = q2 := by
    rw [hp] at hp2
    cases hp2
    exact ⟨rfl, rfl⟩
  obtain ⟨hx, hb, hml, hlk, hmn, hown, hts, hK, hO, hb0, hfr, hlo⟩ := C
  simp only [am_c_alen, Bool.and_eq_true, decide_eq_true_eq, am_de_iff] at hck
  obtain ⟨hd, hnx⟩ := hck
  obtain ⟨q', hq'⟩ := am_nx_of hnx
  unfold am_x_alen at hst
  split at hst
  · rename_i a r
    split at hst
    · rename_i hc
      obtain ⟨ha, hk1, hk2⟩ := hc
      simp only [am_go, Option.some.injEq, Sum.inl.injEq, Prod.mk.injEq] at hst
      obtain ⟨rfl, rfl, rfl, rfl⟩ := hst
      have K := kk hn ht _ _ H locs real hq' hP hS hL
      simp only [List.map_cons, am_v] at K ⊢
      have he := am_ws_at (b0 := b0) (cid := cid) ha
      have h5 : (S.2.1 a).1 = 20 ∨ (S.2.1 a).1 = 21 ∨ (S.2.1 a).1 = 22 ∨ (S.2.1 a).1 = 23 ∨ (S.2.1 a).1 = 24 := by omega
      rcases h5 with h | h | h | h | h
      · rw [am_e_kI (Or.inl h), h] at he
        exact va_alen hx hb hK hP a 0 he rfl rfl hd K
      · rw [am_e_kI (Or.inr h), h] at he
        exact va_alen hx hb hK hP a 1 he rfl rfl hd K
      · rw [am_e_kJ h] at he
        exact va_alen hx hb hK hP a 2 he rfl rfl hd K
      · rw [am_e_kR (Or.inl h), h] at he
        exact va_alen hx hb hK hP a 3 he rfl rfl hd K
      · rw [am_e_kR (Or.inr h), h] at he
        exact va_alen hx hb hK hP a 4 he rfl rfl hd K
    · cases hst
  · rename_i t' r
    split at hst
    · rename_i hc
      simp only [am_go, Option.some.injEq, Sum.inl.injEq, Prod.mk.injEq] at hst
      obtain ⟨rfl, rfl, rfl, rfl⟩ := hst
      have K := kk hn ht _ _ H locs real hq' hP hS hL
      simp only [List.map_cons, am_v] at K ⊢
      rcases hc with rfl | rfl | rfl
      · obtain ⟨oa, hsv, -, hT⟩ := hO.1
        rw [hsv]
        exact va_tlen hx hb hT hS rfl hd K
      · obtain ⟨oa, hsv, hT⟩ := hO.2.2.2.2.1
        rw [hsv]
        exact va_tlen hx hb hT hS rfl hd K
      · obtain ⟨ka, kv, -, hsv, -, -, -, -, hT⟩ := hO.2.2.2.1
        rw [hsv]
        exact va_tlen hx hb hT hS rfl hd K
    · cases hst
  · cases hst

set_option maxHeartbeats 1000000 in
theorem am_s_aald (C : am_Cx X p R s mid args meth c D cid b0 n0 sv (am_rn on) mn cc fr lo nL) (hp : P[i]? = some (pc, q)) (hck : am_c_aald G on mn cc rt fr lo P i pc q = true) (hst : am_x_aald X q i ls st S = some (.inl (j, ls', st', S'))) (kk : am_At p l e R s mid args below meth c Q D cid b0 n0 t0 sv nL P j ls' st' S') : am_At p l e R s mid args below meth c Q D cid b0 n0 t0 sv nL P i ls st S := by
  intro hn ht pc2 q2 H locs real hp2 hP hS hL
  obtain ⟨rfl, rfl⟩ : pc = pc2 ∧ q = q2 := by
    rw [hp] at hp2
    cases hp2
    exact ⟨rfl, rfl⟩
  obtain ⟨hx, hb, hml, hlk, hmn, hown, hts, hK, hO, hb0, hfr, hlo⟩ := C
  simp only [am_c_aald, Bool.and_eq_true, decide_eq_true_eq, am_de_iff] at hck
  obtain ⟨hd, hnx⟩ := hck
  obtain ⟨q', hq'⟩ := am_nx_of hnx
  unfold am_x_aald at hst
  split at hst
  · rename_i j2 a r
    split at hst
    · rename_i hc
      obtain ⟨ha, hk, hin⟩ := hc
      split at hst
      · rename_i v hv
        simp only [am_go, Option.some.injEq, Sum.inl.injEq, Prod.mk.injEq] at hst
        obtain ⟨rfl, rfl, rfl, rfl⟩ := hst
        have K := kk hn ht _ _ H locs real hq' hP hS hL
        simp only [List.map_cons, am_v] at K ⊢
        have he := am_ws_at (b0 := b0) (cid := cid) ha
        rw [am_e_kR hk] at he
        have hlt : j2.toNatClampNeg < (S.2.1 a).2 := Nat.not_le.mp fun z => hin (Or.inr z)
        have hvv : va_rf (am_mp b0 (S.2.2.2.2 a j2.toNatClampNeg)) = .ref (b0 + v) := by rw [hv]; rfl
        rcases hk with h | h
        · rw [h] at he
          exact va_aldq hx hb hK hP a 3 he rfl hin hd (by rw [hvv]; exact K)
        · rw [h] at he
          refine W.aald (v := .ref (b0 + v)) (ty := .array .int) hx hb (hP a _ he) ((hK.2 4 _ rfl).1 _ _) rfl (fun z => by cases z) (by show ¬ (j2 < 0 ∨ (arrV _ _ _).slots.size ≤ _); rw [arrV_size]; exact hin) (by show (arrV _ _ _).slots[_]? = _; rw [arrV_read _ _ hlt, hvv]) rfl rfl hd K
      · cases hst
    · cases hst
  · cases hst

set_option maxHeartbeats 1000000 in
theorem am_s_aast (C : am_Cx X p R s mid args meth c D cid b0 n0 sv (am_rn on) mn cc fr lo nL) (hp : P[i]? = some (pc, q)) (hck : am_c_aast G on mn cc rt fr lo P i pc q = true) (hst : am_x_aast X q i ls st S = some (.inl (j, ls', st', S'))) (kk : am_At p l e R s mid args below meth c Q D cid b0 n0 t0 sv nL P j ls' st' S') : am_At p l e R s mid args below meth c Q D cid b0 n0 t0 sv nL P i ls st S := by
  intro hn ht pc2 q2 H locs real hp2 hP hS hL
  obtain ⟨rfl, rfl⟩ : pc = pc2 ∧ q = q2 := by
    rw [hp] at hp2
    cases hp2
    exact ⟨rfl, rfl⟩
  obtain ⟨hx, hb, hml, hlk, hmn, hown, hts, hK, hO, hb0, hfr, hlo⟩ := C
  simp only [am_c_aast, Bool.and_eq_true, decide_eq_true_eq, am_de_iff] at hck
  obtain ⟨hd, hnx⟩ := hck
  obtain ⟨q', hq'⟩ := am_nx_of hnx
  unfold am_x_aast at hst
  split at hst
  · rename_i x j2 a r
    split at hst
    · rename_i hc
      obtain ⟨ha, hk, hin, hx1, hx2⟩ := hc
      simp only [am_go, Option.some.injEq, Sum.inl.injEq, Prod.mk.injEq] at hst
      obtain ⟨rfl, rfl, rfl, rfl⟩ := hst
      simp only [List.map_cons, am_v]
      have he := am_ws_at (b0 := b0) (cid := cid) ha
      rw [am_e_kR (Or.inl hk), hk] at he
      have hex := am_ws_at (b0 := b0) (cid := cid) hx1
      rw [am_e_kO (by rw [hx2]; omega), hx2] at hex
      refine va_astq hx hb hK hP am_ws_D hS a 3 x 2 he rfl hex (am_clw (ci := 2) (by omega)) hin hd (fun H1 locs1 hP1 _ hS1 => ?_)
      rw [am_ws_set (S := S) (S' := am_setR S a j2.toNatClampNeg x) rfl ha (by
        rw [am_e_kR (S := am_setR S a j2.toNatClampNeg x) (Or.inl hk)]
        show Sum.inl (cid (S.2.1 a).1, (S.2.1 a).2, Sum.inr (Sum.inr (Sum.inr (Sum.inr (fun j => am_mp b0 (am_up S.2.2.2.2 a j2.toNatClampNeg (some x) a j)))))) = _
        rw [hk]
        have hf : (fun j => am_mp b0 (am_up S.2.2.2.2 a j2.toNatClampNeg (some x) a j)) = va_up (fun j => am_mp b0 (S.2.2.2.2 a j)) j2.toNatClampNeg (some (b0 + x)) := by
          funext j
          by_cases h : j = j2.toNatClampNeg
          · subst h
            simp [am_up, va_up, am_mp]
          · simp [am_up, va_up, am_mp, h]
        rw [hf]) (fun k hka => am_e_ne rfl rfl rfl (am_up_ne hka))] at hP1
      exact kk hn ht _ _ H1 locs1 real hq' hP1 hS1 hL
    · cases hst
  · cases hst

end AMS
