def am_oki (g : am_M) (i : Nat) : Bool := match g.2.2.2.2.1[i]? with
  | some r => am_ck am_G g.2.2.2.2.2.2.2.2.2.1 g.1.name g.2.1 g.2.2.2.1 g.2.2.2.2.2.1 g.2.2.2.2.2.2.1 g.2.2.2.2.1 i r.1 r.2
  | none => false
theorem am_okb_by {g : am_M} (h : ∀ i, i < g.2.2.2.2.1.length → am_oki g i = true) (h0 : (match g.2.2.2.2.1[0]? with
  | some r => r.1 == 0 && am_gm g
  | none => true) = true) : am_okb g = true := by
  unfold am_okb
  rw [Bool.and_eq_true]
  exact ⟨List.all_eq_true.mpr (fun i hi => h i (List.mem_range.mp hi)), h0⟩
set_option maxRecDepth 100000 in
theorem amk_0_ : (List.range' 0 8).all (fun m => am_okb (am_G m)) = true := by decide +kernel
set_option maxRecDepth 100000 in
theorem amk_8_ : (List.range' 8 7).all (fun m => am_okb (am_G m)) = true := by decide +kernel
set_option maxRecDepth 100000 in
theorem amk_15_ : (List.range' 15 3).all (fun m => am_okb (am_G m)) = true := by decide +kernel
set_option maxRecDepth 100000 in
theorem amk_18_ : (List.range' 18 4).all (fun m => am_okb (am_G m)) = true := by decide +kernel
set_option maxRecDepth 100000 in
theorem amk_22_ : (List.range' 22 4).all (fun m => am_okb (am_G m)) = true := by decide +kernel
set_option maxRecDepth 100000 in
theorem amk_26_ : (List.range' 26 7).all (fun m => am_okb (am_G m)) = true := by decide +kernel
set_option maxRecDepth 100000 in
theorem amk_33_ : (List.range' 33 4).all (fun m => am_okb (am_G m)) = true := by decide +kernel
set_option maxRecDepth 100000 in
theorem amk_37_ : (List.range' 37 5).all (fun m => am_okb (am_G m)) = true := by decide +kernel
