/-! THE ABSTRACT MACHINE. Its heap: cells 0, 1, 2 .. by number; cell k lies at the address b0 + k. A cell has a kind and a length, its contents are ints, longs or numbers of cells.
   Kinds: 0 .. 12 an object of that class of vwCl; 20 int[], 21 boolean[], 22 long[], 23 Body[], 24 int[][]. Values are the machine's own; '.ref k' is cell k, '.retAddr t' an old cell (0 ORDER, 1 the text WORDS, 2 the script, 3 the bytes of WORDS, 9 something never looked at), '.null' stands for 'not known'. -/
abbrev am_I : Type := Nat × Nat × Nat × Int × List Nat
abbrev am_S : Type := (Nat × Nat) × (Nat → Nat × Nat) × (Nat → Nat → Int32) × (Nat → Nat → Int64) × (Nat → Nat → Option Nat)
abbrev am_X : Type := Nat → Nat × (Nat → Int32)
abbrev am_R : Type := (Nat × List Value × List Value × am_S) ⊕ ((Option Value × am_S) ⊕ (Nat × List Value × List Value))
/-- a method: name, bytes, locals, answer, its instructions, frames and locals' words that its calls want; its parameters, kind (0 virtual, 1 static, 2 constructor, 3 the law), its class's number, places of its words -/
abbrev am_M : Type := MethodName × ByteArray × Nat × Option FieldType × List (Nat × am_I) × Nat × Nat × (Nat × Nat × Nat × List Nat)
def am_up {α : Type} (f : Nat → Nat → α) (c k : Nat) (v : α) : Nat → Nat → α := fun a b => if a = c then (if b = k then v else f a b) else f a b
def am_cl {α : Type} (f : Nat → Nat → α) (c : Nat) (v : α) : Nat → Nat → α := fun a b => if a = c then v else f a b
def am_setI (S : am_S) (c k : Nat) (v : Int32) : am_S := (S.1, S.2.1, am_up S.2.2.1 c k v, S.2.2.2)
def am_setJ (S : am_S) (c k : Nat) (v : Int64) : am_S := (S.1, S.2.1, S.2.2.1, am_up S.2.2.2.1 c k v, S.2.2.2.2)
def am_setR (S : am_S) (c k v : Nat) : am_S := (S.1, S.2.1, S.2.2.1, S.2.2.2.1, am_up S.2.2.2.2 c k (some v))
def am_mk (S : am_S) (t n : Nat) : am_S := ((S.1.1 + 1, S.1.2 + n), (fun a => if a = S.1.1 then (t, n) else S.2.1 a), am_cl S.2.2.1 S.1.1 0, am_cl S.2.2.2.1 S.1.1 0, am_cl S.2.2.2.2 S.1.1 none)
/-- new int[n][k] -/
def am_mm (S : am_S) (n k : Nat) : am_S := ((S.1.1 + 1 + n, S.1.2 + n + n * k), (fun a => if a = S.1.1 then (24, n) else if S.1.1 < a ∧ a ≤ S.1.1 + n then (20, k) else S.2.1 a), (fun a b => if S.1.1 ≤ a ∧ a ≤ S.1.1 + n then 0 else S.2.2.1 a b), (fun a b => if S.1.1 ≤ a ∧ a ≤ S.1.1 + n then 0 else S.2.2.2.1 a b), (fun a b => if a = S.1.1 then (if b < n then some (S.1.1 + 1 + b) else none) else if S.1.1 < a ∧ a ≤ S.1.1 + n then none else S.2.2.2.2 a b))
def am_cp (S : am_S) (a b sp dp n : Nat) : am_S := (S.1, S.2.1, (fun c k => if c = b then (if dp ≤ k ∧ k < dp + n then S.2.2.1 a (sp + (k - dp)) else S.2.2.1 c k) else S.2.2.1 c k), S.2.2.2)
def am_st (ls : List Value) (i : Nat) (v : Value) : List Value := (match i with
  | 0 => ls
  | j + 1 => match ls[j]? with
    | some w => if w.category = 2 then ls.set j .null else ls
    | none => ls).set i v
def am_st2 (ls : List Value) (i : Nat) (v : Value) : List Value := (am_st ls i v).set (i + 1) .null
/-- instructions alike -/
def am_ieq (x y : Instr) : Bool := match x with
  | .iadd => (match y with
    | .iadd => true
    | _ => false)
  | .isub => (match y with
    | .isub => true
    | _ => false)
  | .imul => (match y with
    | .imul => true
    | _ => false)
  | .iand => (match y with
    | .iand => true
    | _ => false)
  | .ior => (match y with
    | .ior => true
    | _ => false)
  | .ixor => (match y with
    | .ixor => true
    | _ => false)
  | .ishl => (match y with
    | .ishl => true
    | _ => false)
  | .ishr => (match y with
    | .ishr => true
    | _ => false)
  | .iushr => (match y with
    | .iushr => true
    | _ => false)
  | .ineg => (match y with
    | .ineg => true
    | _ => false)
  | .idiv => (match y with
    | .idiv => true
    | _ => false)
  | .irem => (match y with
    | .irem => true
    | _ => false)
  | .ladd => (match y with
    | .ladd => true
    | _ => false)
  | .lsub => (match y with
    | .lsub => true
    | _ => false)
  | .lmul => (match y with
    | .lmul => true
    | _ => false)
  | .land => (match y with
    | .land => true
    | _ => false)
  | .lor => (match y with
    | .lor => true
    | _ => false)
  | .lshl => (match y with
    | .lshl => true
    | _ => false)
  | .lushr => (match y with
    | .lushr => true
    | _ => false)
  | .lrem => (match y with
    | .lrem => true
    | _ => false)
  | .i2l => (match y with
    | .i2l => true
    | _ => false)
  | .l2i => (match y with
    | .l2i => true
    | _ => false)
  | .i2c => (match y with
    | .i2c => true
    | _ => false)
  | .dup => (match y with
    | .dup => true
    | _ => false)
  | .pop => (match y with
    | .pop => true
    | _ => false)
  | .dup2 => (match y with
    | .dup2 => true
    | _ => false)
  | .iaload => (match y with
    | .iaload => true
    | _ => false)
  | .iastore => (match y with
    | .iastore => true
    | _ => false)
  | .baload => (match y with
    | .baload => true
    | _ => false)
  | .bastore => (match y with
    | .bastore => true
    | _ => false)
  | .laload => (match y with
    | .laload => true
    | _ => false)
  | .lastore => (match y with
    | .lastore => true
    | _ => false)
  | .aaload => (match y with
    | .aaload => true
    | _ => false)
  | .aastore => (match y with
    | .aastore => true
    | _ => false)
  | .arraylength => (match y with
    | .arraylength => true
    | _ => false)
  | .ireturn => (match y with
    | .ireturn => true
    | _ => false)
  | .lreturn => (match y with
    | .lreturn => true
    | _ => false)
  | .areturn => (match y with
    | .areturn => true
    | _ => false)
  | .return_ => (match y with
    | .return_ => true
    | _ => false)
  | .iconst a => (match y with
    | .iconst b => a == b
    | _ => false)
  | .bipush a => (match y with
    | .bipush b => a == b
    | _ => false)
  | .sipush a => (match y with
    | .sipush b => a == b
    | _ => false)
  | .ldc a => (match y with
    | .ldc b => a == b
    | _ => false)
  | .ldc_w a => (match y with
    | .ldc_w b => a == b
    | _ => false)
  | .ldc2_w a => (match y with
    | .ldc2_w b => a == b
    | _ => false)
  | .iload a => (match y with
    | .iload b => a == b
    | _ => false)
  | .aload a => (match y with
    | .aload b => a == b
    | _ => false)
  | .lload a => (match y with
    | .lload b => a == b
    | _ => false)
  | .istore a => (match y with
    | .istore b => a == b
    | _ => false)
  | .astore a => (match y with
    | .astore b => a == b
    | _ => false)
  | .lstore a => (match y with
    | .lstore b => a == b
    | _ => false)
  | .iload_n a => (match y with
    | .iload_n b => a == b
    | _ => false)
  | .aload_n a => (match y with
    | .aload_n b => a == b
    | _ => false)
  | .lload_n a => (match y with
    | .lload_n b => a == b
    | _ => false)
  | .istore_n a => (match y with
    | .istore_n b => a == b
    | _ => false)
  | .astore_n a => (match y with
    | .astore_n b => a == b
    | _ => false)
  | .lstore_n a => (match y with
    | .lstore_n b => a == b
    | _ => false)
  | .goto a => (match y with
    | .goto b => a == b
    | _ => false)
  | .getfield a => (match y with
    | .getfield b => a == b
    | _ => false)
  | .putfield a => (match y with
    | .putfield b => a == b
    | _ => false)
  | .getstatic a => (match y with
    | .getstatic b => a == b
    | _ => false)
  | .invokevirtual a => (match y with
    | .invokevirtual b => a == b
    | _ => false)
  | .invokestatic a => (match y with
    | .invokestatic b => a == b
    | _ => false)
  | .invokespecial a => (match y with
    | .invokespecial b => a == b
    | _ => false)
  | .new a => (match y with
    | .new b => a == b
    | _ => false)
  | .iinc a c => (match y with
    | .iinc b d => a == b && c == d
    | _ => false)
  | .ifCond a c => (match y with
    | .ifCond b d => decide (a = b) && c == d
    | _ => false)
  | .if_icmp a c => (match y with
    | .if_icmp b d => decide (a = b) && c == d
    | _ => false)
  | x => decide (x = y)
theorem am_ieq_iff {x y : Instr} : am_ieq x y = true ↔ x = y := by
  unfold am_ieq
  split
  all_goals first
    | (split
       · simp
       · rename_i h
         simp only [Bool.false_eq_true, false_iff]
         intro z
         first | exact h z.symm | exact h _ z.symm | exact h _ _ z.symm)
    | simp
def am_de (cc : ByteArray) (pc : Nat) (x : Instr) (n : Nat) : Bool := match decode cc pc with
  | .ok (y, k) => am_ieq x y && k == n
  | .error _ => false
theorem am_de_iff {cc : ByteArray} {pc : Nat} {x : Instr} {n : Nat} : (am_de cc pc x n = true) = (decode cc pc = .ok (x, n)) := by
  unfold am_de
  split
  · rename_i y k h
    rw [h, Bool.and_eq_true, am_ieq_iff, beq_iff_eq]
    simp only [Except.ok.injEq, Prod.mk.injEq]
    exact propext ⟨fun z => ⟨z.1.symm, z.2⟩, fun z => ⟨z.1.symm, z.2⟩⟩
  · rename_i e h
    rw [h]
    simp
def am_go (j : Nat) (ls st : List Value) (S : am_S) : Option am_R := some (.inl (j, ls, st, S))
/-! words of the tables, by their places -/
def am_tbl (k : Nat) : List Cond := match k with
  | 0 => k2_sels lw_privs
  | 1 => tables_1_1
  | 2 => tables_1_2
  | 3 => tables_1_3
  | 4 => tables_1_4
  | 5 => tables_1_5
  | 6 => tables_1_6
  | 7 => tables_1_7
  | 8 => tables_1_8
  | 9 => tables_1_9
  | _ => []
def am_tb (p : Nat) : Option Cond := (am_tbl (p / 1000))[p % 1000]?
def am_has (ts : List Nat) (j : Nat) (w : Cond) : Bool := (match ts[j]? with
  | some p => decide (am_tb p = some w)
  | none => false) && goodWord w
/-! fields: class number and field number -/
def am_rn (ci : Nat) : String := match ci with
  | 0 => RX0
  | 1 => RX1
  | 2 => RX2
  | 3 => RX3
  | 4 => RX4
  | 5 => RX5
  | 6 => RX6
  | 7 => RX7
  | 8 => RX8
  | 9 => RX9
  | 10 => RX10
  | 11 => RX11
  | 12 => RX12
  | 13 => RL
  | 14 => RJ6
  | 15 => RJ13
  | 16 => RJ9
  | 17 => RJ0
  | 18 => RJ1
  | 19 => RJ7
  | _ => RJ3
def am_nf (ci : Nat) : Nat := match ci with
  | 0 => 8
  | 1 => 10
  | 2 => 7
  | 3 => 6
  | 4 => 3
  | 5 => 4
  | 6 => 8
  | 7 => 9
  | 8 => 11
  | 9 => 2
  | 10 => 12
  | 11 => 13
  | _ => 44
def am_fd (ci k : Nat) : String × String × String × Bool := match ci with
  | 0 => TX0 k
  | 1 => TX1 k
  | 2 => TX2 k
  | 3 => TX3 k
  | 4 => TX4 k
  | 5 => TX5 k
  | 6 => TX6 k
  | 7 => TX7 k
  | 8 => TX8 k
  | 9 => TX9 k
  | 10 => TX10 k
  | 11 => TX11 k
  | _ => TX12 k
def am_ft (ci k : Nat) : FieldType := match ci with
  | 0 => tyX0 k
  | 1 => tyX1 k
  | 2 => tyX2 k
  | 3 => tyX3 k
  | 4 => tyX4 k
  | 5 => tyX5 k
  | 6 => tyX6 k
  | 7 => tyX7 k
  | 8 => tyX8 k
  | 9 => tyX9 k
  | 10 => tyX10 k
  | 11 => tyX11 k
  | _ => tyX12 k
def am_rt (t : FieldType) : Bool := match t with
  | .object _ => true
  | .array _ => true
  | _ => false
/-- a field as a value; a reference that isn't set yet is not known -/
def am_fv (S : am_S) (a ci k : Nat) : Value := if am_rt (am_ft ci k) = true then (match S.2.2.2.2 a k with
  | some v => .ref v
  | none => .null) else .int (S.2.2.1 a k)
def am_nt (b : Nat) : FieldType := match b with
  | 0 => .int
  | 1 => .boolean
  | 2 => .byte
  | _ => .char
def am_at (a : Nat) : ArrayType := match a with
  | 20 => .int
  | 21 => .boolean
  | _ => .long
/-- the statics that are read -/
def am_sn (b : Nat) : String × String × String := match b with
  | 0 => ("PassScreener$Picture", "ORDER", "[I")
  | 1 => ("java/lang/String", "COMPACT_STRINGS", "Z")
  | _ => ("jdk/internal/util/Preconditions", "SIOOBE_FORMATTER", "Ljava/util/function/BiFunction;")
def am_cd (b : Nat) : ClassFile.Cond := match b with
  | 0 => .eq
  | 1 => .ne
  | 2 => .lt
  | 3 => .ge
  | 4 => .gt
  | _ => .le
def am_cmp (b : Nat) (x y : Int32) : Bool := match b with
  | 0 => decide (x = y)
  | 1 => decide (¬ x = y)
  | 2 => decide (x < y)
  | 3 => decide (y ≤ x)
  | 4 => decide (y < x)
  | _ => decide (x ≤ y)
/-! rows of instructions: the next one's place, a branch's target -/
def am_nx (P : List (Nat × am_I)) (i pc len : Nat) : Bool := match P[i + 1]? with
  | some r => r.1 == pc + len
  | none => false
def am_tg (P : List (Nat × am_I)) (pc t : Nat) (off : Int) : Bool := match P[t]? with
  | some r => decide ((pc : Int) + off = (r.1 : Int))
  | none => false
def am_of (P : List (Nat × am_I)) (pc t : Nat) : Int := match P[t]? with
  | some r => (r.1 : Int) - (pc : Int)
  | none => 0
/-! links of fields (class, index, field), of methods (class, index, method), and the places of their words -/
def am_FL_0 : List (Nat × Nat × Nat × Nat) := [(0, 15, 0, 4), (0, 18, 0, 7), (0, 22, 0, 0), (0, 26, 0, 1), (0, 30, 0, 2), (0, 34, 0, 3), (0, 38, 0, 5), (0, 41, 0, 6), (0, 44, 7, 6), (0, 50, 7, 8), (0, 61, 7, 0), (0, 92, 2, 2), (0, 96, 7, 3), (0, 102, 7, 5), (0, 114, 7, 2), (1, 9, 1, 2), (1, 15, 1, 3), (1, 18, 1, 4), (1, 21, 1, 5), (1, 24, 1, 6), (1, 27, 1, 7), (1, 30, 1, 0), (1, 34, 1, 1), (1, 38, 1, 8), (1, 42, 7, 2), (1, 54, 7, 0), (1, 78, 1, 9), (1, 81, 7, 5), (1, 100, 7, 4), (1, 106, 2, 2), (1, 109, 2, 1), (1, 112, 2, 3), (1, 113, 2, 4), (1, 114, 2, 5), (1, 115, 7, 3), (2, 9, 2, 1), (2, 15, 2, 2), (2, 19, 2, 3), (2, 22, 2, 4), (2, 25, 2, 5), (2, 28, 2, 6), (3, 9, 3, 1), (3, 15, 3, 2), (3, 18, 3, 3), (3, 22, 3, 4), (3, 25, 3, 5), (3, 28, 3, 0), (3, 53, 7, 0), (3, 72, 2, 1), (3, 81, 2, 3), (3, 96, 7, 3), (3, 103, 7, 2), (3, 138, 2, 2), (4, 15, 4, 0), (4, 18, 4, 2), (4, 21, 7, 3), (4, 27, 4, 1), (4, 30, 7, 2), (4, 33, 7, 0), (4, 37, 2, 2), (4, 42, 9, 1), (5, 9, 5, 1), (5, 15, 5, 2), (5, 19, 5, 3), (5, 22, 5, 0), (5, 41, 7, 0), (5, 51, 7, 3), (5, 82, 2, 1), (5, 93, 7, 2), (6, 11, 6, 4), (6, 15, 6, 5), (6, 18, 6, 6), (6, 22, 6, 7), (6, 25, 9, 1), (6, 35, 6, 0), (6, 38, 6, 1), (6, 41, 2, 1), (6, 46, 2, 3), (6, 49, 2, 4), (6, 64, 6, 3), (6, 71, 6, 2), (7, 13, 7, 0), (7, 17, 7, 7), (7, 22, 7, 2), (7, 30, 2, 2), (7, 33, 2, 0), (7, 43, 7, 1), (7, 47, 8, 4), (7, 50, 8, 2), (7, 53, 7, 3), (7, 54, 8, 3), (7, 57, 7, 4), (7, 58, 7, 5), (7, 61, 8, 5), (7, 64, 8, 6), (7, 77, 7, 6), (8, 9, 8, 1), (8, 15, 8, 5), (8, 21, 8, 6), (8, 24, 8, 7)]
def am_FL_1 : List (Nat × Nat × Nat × Nat) := [(8, 28, 8, 8), (8, 31, 8, 4), (8, 34, 8, 9), (8, 38, 8, 0), (8, 47, 9, 1), (8, 63, 8, 10), (8, 66, 8, 2), (8, 69, 8, 3), (9, 9, 9, 0), (9, 15, 9, 1), (10, 14, 10, 3), (10, 18, 10, 4), (10, 22, 10, 6), (10, 26, 10, 7), (10, 29, 10, 8), (10, 32, 10, 10), (10, 35, 10, 11), (10, 39, 10, 0), (10, 43, 10, 1), (10, 47, 10, 2), (10, 57, 7, 4), (10, 74, 7, 0), (10, 78, 7, 2), (10, 81, 1, 3), (10, 96, 2, 1), (10, 109, 7, 5), (10, 116, 10, 9), (10, 160, 7, 3), (10, 173, 10, 5), (10, 188, 7, 8), (10, 214, 2, 2), (11, 10, 11, 0), (11, 21, 11, 1), (11, 28, 11, 2), (11, 37, 11, 3), (11, 44, 11, 4), (11, 53, 11, 5), (11, 62, 11, 6), (11, 71, 11, 7), (11, 78, 11, 8), (11, 85, 11, 9), (11, 89, 11, 10), (11, 93, 11, 11), (11, 96, 11, 12), (11, 111, 9, 1), (11, 123, 6, 1), (11, 129, 8, 0), (11, 132, 8, 1), (11, 135, 7, 2), (11, 146, 7, 3), (11, 149, 7, 5), (11, 155, 0, 6), (11, 158, 0, 7), (11, 164, 7, 6), (11, 167, 7, 4), (11, 176, 7, 0), (11, 180, 2, 0), (11, 198, 2, 2), (11, 261, 3, 4), (11, 267, 1, 7), (11, 292, 3, 5), (11, 307, 7, 7), (11, 317, 7, 1), (11, 321, 1, 8), (11, 330, 10, 4), (11, 359, 6, 2), (11, 362, 6, 3), (11, 391, 4, 1), (11, 392, 4, 0), (11, 403, 6, 0), (12, 9, 12, 0), (12, 13, 12, 1), (12, 17, 12, 2), (12, 20, 12, 3), (12, 24, 12, 4), (12, 27, 12, 5), (12, 30, 12, 6), (12, 33, 12, 7), (12, 36, 12, 8), (12, 39, 12, 9), (12, 42, 12, 10), (12, 45, 12, 11), (12, 48, 12, 12), (12, 51, 12, 13), (12, 54, 12, 14), (12, 57, 12, 15), (12, 60, 12, 16), (12, 63, 12, 17), (12, 66, 12, 18), (12, 69, 12, 19), (12, 72, 12, 20), (12, 75, 12, 21), (12, 78, 12, 22), (12, 81, 12, 23), (12, 84, 12, 24), (12, 87, 12, 25), (12, 90, 12, 26), (12, 93, 12, 27), (12, 96, 12, 28), (12, 99, 12, 29)]
def am_FL_2 : List (Nat × Nat × Nat × Nat) := [(12, 102, 12, 30), (12, 105, 12, 31), (12, 108, 12, 32), (12, 111, 12, 33), (12, 115, 12, 34), (12, 118, 12, 35), (12, 121, 12, 36), (12, 124, 12, 37), (12, 127, 12, 38), (12, 130, 12, 39), (12, 133, 12, 40), (12, 136, 12, 41), (12, 139, 12, 42), (12, 142, 12, 43)]
def am_FL : List (Nat × Nat × Nat × Nat) := am_FL_0 ++ (am_FL_1 ++ (am_FL_2))
def am_FLp_0 : List Nat := [2130, 2134, 2126, 2127, 2128, 2129, 2131, 2132, 1187, 1192, 1156, 1122, 1173, 1186, 1169, 2040, 2041, 2043, 2044, 2045, 2046, 2038, 2039, 2048, 1163, 1154, 2050, 1183, 1180, 1124, 1118, 1130, 1133, 1135, 1177, 1113, 1119, 1127, 1131, 1134, 1136, 2012, 2013, 2014, 2015, 2017, 2011, 1158, 1117, 1129, 1175, 1167, 1126, 2196, 2200, 1170, 2198, 1164, 1153, 1120, 1042, 1227, 1228, 1229, 1226, 1157, 1171, 1116, 1168, 2167, 2168, 2169, 2170, 1039, 2159, 2161, 1114, 1128, 1132, 2165, 2163, 1152, 1190, 1162, 1121, 1111, 1160, 1066, 1062, 1174, 1064, 1181, 1185, 1068, 1070, 1189, 1059, 1067, 1069, 1071]
def am_FLp_1 : List Nat := [1072, 1065, 1073, 1057, 1040, 1074, 1061, 1063, 1037, 1038, 2083, 2084, 2087, 2088, 2089, 2091, 2092, 2080, 2081, 2082, 1178, 1155, 1165, 2042, 1115, 1182, 2090, 1176, 2086, 1193, 1125, 2208, 2209, 2210, 2211, 2212, 2213, 2214, 2215, 2216, 2217, 2218, 2219, 2220, 1041, 2162, 1058, 1060, 1166, 1172, 1184, 2133, 2135, 1188, 1179, 1159, 1112, 1123, 2016, 2047, 2018, 1191, 1161, 2049, 2085, 2164, 2166, 2199, 2197, 2160, 6228, 6229, 6230, 6231, 6232, 6233, 6234, 6235, 6236, 6237, 6238, 6239, 7000, 7001, 7002, 7003, 7004, 7005, 7006, 7007, 7008, 7009, 7010, 7011, 7012, 7013, 7014, 7015, 7016, 7017]
def am_FLp_2 : List Nat := [7018, 7019, 7020, 7021, 7022, 7023, 7024, 7025, 7026, 7027, 7028, 7029, 7030, 7031]
def am_FLp : List Nat := am_FLp_0 ++ (am_FLp_1 ++ (am_FLp_2))
def am_ML_0 : List (Nat × Nat × Nat) := [(0, 47, 2), (0, 53, 79), (0, 58, 49), (0, 65, 31), (0, 70, 80), (0, 74, 50), (0, 75, 108), (0, 79, 109), (0, 82, 4), (0, 85, 47), (0, 89, 3), (0, 99, 10), (0, 105, 20), (0, 111, 107), (0, 117, 13), (0, 121, 12), (1, 47, 16), (1, 51, 17), (1, 58, 38), (1, 64, 53), (1, 70, 40), (1, 74, 52), (1, 84, 21), (1, 88, 19), (1, 92, 102), (1, 96, 22), (1, 103, 23), (1, 118, 15), (1, 122, 25), (2, 37, 353), (2, 43, 352), (2, 46, 32), (2, 50, 33), (2, 53, 30), (2, 58, 39), (2, 62, 38), (2, 66, 350), (2, 69, 36), (2, 73, 34), (2, 76, 43), (2, 80, 44), (3, 32, 49), (3, 35, 360), (3, 41, 51), (3, 45, 353), (3, 50, 352), (3, 59, 55), (3, 63, 52), (3, 66, 40), (3, 76, 30), (3, 84, 35), (3, 88, 101), (3, 92, 57), (3, 99, 38), (3, 106, 58), (3, 109, 348), (3, 114, 60), (3, 117, 56), (3, 120, 63), (3, 123, 64), (3, 126, 66), (3, 130, 70), (3, 134, 69), (3, 141, 350), (3, 144, 351), (3, 147, 39), (3, 150, 36), (3, 154, 67), (4, 45, 125), (4, 49, 75), (4, 53, 76), (4, 63, 27), (4, 67, 28), (4, 70, 31), (5, 26, 79), (5, 29, 360), (5, 35, 51), (5, 47, 82), (5, 55, 38), (5, 61, 84), (5, 65, 87), (5, 69, 30), (5, 73, 37), (5, 77, 351), (5, 85, 83), (5, 89, 40), (5, 96, 81), (6, 31, 125), (6, 52, 92), (6, 56, 93), (6, 60, 94), (6, 67, 97), (6, 74, 360), (6, 80, 352), (7, 26, 99), (7, 36, 101), (7, 39, 104), (7, 74, 31), (8, 41, 112), (8, 44, 114)]
def am_ML_1 : List (Nat × Nat × Nat) := [(8, 52, 113), (8, 55, 115), (8, 59, 117), (8, 72, 118), (8, 76, 120), (8, 79, 116), (8, 82, 27), (8, 88, 28), (8, 91, 125), (8, 95, 126), (8, 98, 128), (8, 102, 121), (8, 105, 119), (8, 108, 127), (8, 113, 354), (8, 118, 355), (8, 122, 129), (9, 19, 125), (9, 23, 129), (10, 51, 102), (10, 60, 15), (10, 66, 18), (10, 70, 132), (10, 84, 38), (10, 88, 134), (10, 92, 135), (10, 99, 349), (10, 105, 36), (10, 112, 30), (10, 119, 99), (10, 123, 137), (10, 126, 40), (10, 130, 353), (10, 135, 139), (10, 139, 31), (10, 142, 140), (10, 146, 29), (10, 150, 46), (10, 154, 47), (10, 157, 101), (10, 163, 41), (10, 167, 146), (10, 170, 148), (10, 177, 58), (10, 182, 147), (10, 185, 151), (10, 191, 348), (10, 195, 45), (10, 199, 150), (10, 203, 149), (10, 207, 136), (10, 211, 141), (10, 217, 152), (10, 220, 44), (10, 223, 153), (11, 18, 110), (11, 27, 98), (11, 34, 78), (11, 43, 48), (11, 50, 14), (11, 59, 131), (11, 68, 0), (11, 99, 123), (11, 103, 208), (11, 107, 124), (11, 115, 111), (11, 119, 106), (11, 126, 1), (11, 138, 102), (11, 141, 348), (11, 152, 59), (11, 161, 88), (11, 170, 61), (11, 173, 99), (11, 185, 130), (11, 189, 126), (11, 192, 128), (11, 195, 103), (11, 201, 209), (11, 205, 34), (11, 208, 100), (11, 212, 30), (11, 215, 35), (11, 219, 37), (11, 223, 81), (11, 226, 85), (11, 230, 86), (11, 233, 54), (11, 236, 52), (11, 239, 40), (11, 243, 56), (11, 246, 210), (11, 249, 42), (11, 253, 352), (11, 258, 65), (11, 264, 62), (11, 270, 24), (11, 274, 58), (11, 277, 101), (11, 280, 60)]
def am_ML_2 : List (Nat × Nat × Nat) := [(11, 283, 211), (11, 286, 67), (11, 289, 68), (11, 295, 71), (11, 298, 89), (11, 301, 104), (11, 304, 105), (11, 310, 15), (11, 314, 18), (11, 324, 133), (11, 327, 142), (11, 333, 138), (11, 336, 143), (11, 339, 144), (11, 342, 145), (11, 345, 91), (11, 348, 212), (11, 352, 95), (11, 355, 96), (11, 365, 46), (11, 368, 6), (11, 371, 7), (11, 375, 8), (11, 378, 9), (11, 381, 11), (11, 384, 5), (11, 387, 73), (11, 395, 74), (11, 399, 77), (12, 145, 218), (12, 149, 220), (12, 153, 219), (12, 157, 224), (12, 160, 229), (12, 164, 227), (12, 168, 225), (12, 171, 226), (12, 174, 228), (12, 178, 230), (12, 181, 231), (12, 184, 232), (12, 187, 214), (12, 191, 235), (12, 195, 236), (12, 198, 234), (12, 202, 233), (12, 205, 237), (12, 208, 223), (12, 211, 238), (12, 214, 242), (12, 218, 248), (12, 221, 241), (12, 225, 215), (12, 228, 245), (12, 232, 246), (12, 235, 247), (12, 238, 217), (12, 241, 251), (12, 244, 250), (12, 247, 243), (12, 250, 252), (12, 253, 253), (12, 256, 256), (12, 259, 254), (12, 263, 275), (12, 266, 292), (12, 269, 259), (12, 272, 260), (12, 275, 261), (12, 278, 262), (12, 281, 258), (12, 284, 249), (12, 288, 257), (12, 291, 269), (12, 294, 271), (12, 297, 272), (12, 300, 273), (12, 303, 274), (12, 306, 255), (12, 309, 216), (12, 312, 280), (12, 315, 281), (12, 319, 284), (12, 322, 285), (12, 325, 287), (12, 328, 290), (12, 331, 294), (12, 334, 295), (12, 337, 300), (12, 340, 303), (12, 343, 304), (12, 346, 305), (12, 349, 309), (12, 352, 311), (12, 355, 312), (12, 358, 314), (12, 361, 313), (12, 364, 315), (12, 367, 317), (12, 370, 318)]
def am_ML_3 : List (Nat × Nat × Nat) := [(12, 373, 319), (12, 376, 323), (12, 380, 327), (12, 383, 328), (12, 386, 330), (12, 389, 244), (12, 392, 335), (12, 401, 337), (12, 404, 341), (12, 407, 344), (12, 410, 345), (17, 335, 356), (17, 492, 357), (17, 495, 359), (17, 1059, 361), (18, 9, 358), (13, 9, 154), (13, 12, 213), (13, 13, 155), (13, 17, 221), (13, 18, 156), (13, 22, 222), (13, 23, 157), (13, 27, 239), (13, 28, 158), (13, 32, 240), (13, 33, 159), (13, 36, 263), (13, 37, 160), (13, 41, 264), (13, 42, 161), (13, 45, 265), (13, 46, 162), (13, 49, 266), (13, 50, 163), (13, 54, 267), (13, 55, 164), (13, 58, 268), (13, 59, 165), (13, 62, 270), (13, 63, 166), (13, 66, 276), (13, 67, 167), (13, 70, 277), (13, 71, 168), (13, 74, 278), (13, 75, 169), (13, 78, 279), (13, 79, 170), (13, 83, 282), (13, 84, 171), (13, 87, 283), (13, 88, 172), (13, 91, 285), (13, 92, 173), (13, 95, 286), (13, 96, 174), (13, 99, 288), (13, 100, 175), (13, 103, 289), (13, 104, 176), (13, 107, 291), (13, 108, 177), (13, 111, 293), (13, 112, 178), (13, 115, 296), (13, 116, 179), (13, 119, 297), (13, 120, 180), (13, 123, 298), (13, 124, 181), (13, 127, 299), (13, 128, 182), (13, 131, 301), (13, 132, 183), (13, 135, 302), (13, 136, 184), (13, 139, 306), (13, 140, 185), (13, 143, 307), (13, 144, 186), (13, 147, 308), (13, 148, 187), (13, 151, 310), (13, 152, 188), (13, 155, 320), (13, 156, 189), (13, 159, 316), (13, 160, 190), (13, 163, 321), (13, 164, 191), (13, 167, 322), (13, 168, 192), (13, 171, 324), (13, 172, 193), (13, 175, 325), (13, 176, 194), (13, 179, 326), (13, 180, 195), (13, 183, 329)]
def am_ML_4 : List (Nat × Nat × Nat) := [(13, 184, 196), (13, 187, 331), (13, 188, 197), (13, 191, 332), (13, 192, 198), (13, 196, 333), (13, 197, 199), (13, 200, 334), (13, 201, 200), (13, 204, 336), (13, 205, 201), (13, 208, 338), (13, 209, 202), (13, 213, 339), (13, 214, 203), (13, 217, 340), (13, 218, 204), (13, 221, 342), (13, 222, 205), (13, 225, 343), (13, 226, 206), (13, 229, 346), (13, 230, 207), (13, 233, 347)]
def am_ML : List (Nat × Nat × Nat) := am_ML_0 ++ (am_ML_1 ++ (am_ML_2 ++ (am_ML_3 ++ (am_ML_4))))
def am_MLp_0 : List Nat := [3180, 3184, 3185, 6101, 6102, 6106, 6092, 6172, 6088, 6096, 6097, 6134, 6138, 6142, 6154, 6160, 4211, 4222, 4215, 4216, 4220, 4221, 5096, 5100, 4206, 4226, 4234, 4207, 4230, 3162, 3165, 3168, 3172, 4093, 5210, 5211, 5212, 5213, 4156, 4157, 5177, 2006, 2010, 3233, 3236, 3237, 3238, 3229, 4002, 4006, 4011, 3209, 3221, 3225, 3217, 4015, 4055, 4189, 4190, 4194, 4173, 5020, 5032, 5036, 5039, 5024, 5028, 5056, 6200, 6201, 6206, 6210, 6211, 6216, 1219, 1223, 4024, 4025, 4029, 4030, 4046, 4038, 4039, 4043, 4034, 4050, 4020, 6041, 6062, 6058, 6054, 6073, 6077, 6078, 3213, 5081, 5082, 3158, 3036, 3044]
def am_MLp_1 : List Nat := [3137, 3040, 3125, 3133, 3117, 3141, 3145, 3148, 3048, 3052, 3057, 3064, 3121, 3129, 3068, 3078, 3116, 3056, 3061, 5120, 5121, 5122, 5116, 5123, 5124, 5129, 5134, 5128, 5133, 5190, 5191, 5195, 5196, 5164, 5185, 5201, 5168, 5173, 5181, 5205, 5206, 5148, 5152, 5234, 6003, 6016, 6007, 5156, 5160, 5214, 5186, 5197, 6020, 6024, 6025, 1051, 1100, 1215, 2002, 2034, 2074, 2121, 3012, 3016, 3020, 3032, 3151, 3176, 3195, 3199, 3205, 4016, 4051, 4063, 4064, 4071, 4072, 4073, 4085, 4089, 4099, 4103, 4104, 4109, 4114, 4119, 4127, 4135, 4139, 4140, 4141, 4149, 4152, 4164, 4169, 4185, 4202, 5002, 5007, 5008]
def am_MLp_2 : List Nat := [5013, 5016, 5044, 5052, 5061, 5069, 5077, 5091, 5092, 5112, 5144, 5222, 5230, 5239, 6012, 6037, 6046, 6050, 6069, 6083, 6084, 6114, 6122, 6130, 6150, 6168, 6184, 6196, 6212, 7125, 7129, 7137, 7173, 7165, 7169, 7177, 7181, 7185, 7161, 7189, 7157, 7193, 7208, 7204, 7153, 7196, 7200, 7145, 7149, 7212, 7216, 7228, 7232, 7235, 7224, 7220, 8034, 8030, 8037, 8018, 8022, 8026, 8088, 8014, 8045, 8077, 8006, 8010, 8041, 8073, 8104, 8065, 8112, 8061, 8057, 8049, 8053, 8069, 8136, 8081, 8144, 8147, 8159, 8167, 8172, 8184, 8200, 8196, 8220, 8236, 9000, 9008, 9016, 9028, 9024, 9032, 9036, 9040, 9052, 9048]
def am_MLp_3 : List Nat := [9056, 9072, 9092, 9088, 9100, 9108, 9124, 9132, 9151, 9167, 9163, 3072, 3082, 3086, 3094, 3089, 1025, 6223, 3008, 7121, 3024, 7133, 3028, 7141, 3187, 7238, 3191, 8002, 4059, 8084, 4067, 8092, 4077, 8096, 4081, 8100, 4095, 8108, 4105, 8116, 4110, 8120, 4115, 8124, 4123, 8128, 4131, 8132, 4145, 8140, 4160, 8151, 4165, 8155, 4177, 8163, 4181, 8168, 4198, 8176, 4238, 8180, 5003, 8188, 5009, 8192, 5040, 8204, 5048, 8208, 5057, 8212, 5065, 8216, 5073, 8224, 5083, 8228, 5087, 8232, 5104, 9004, 5108, 9012, 5140, 9044, 5218, 9020, 5226, 9060, 5235, 9064, 6008, 9068, 6029, 9076, 6033, 9080, 6042, 9084]
def am_MLp_4 : List Nat := [6065, 9096, 6079, 9104, 6110, 9112, 6118, 9116, 6126, 9120, 6146, 9128, 6164, 9139, 6176, 9143, 6180, 9147, 6188, 9155, 6192, 9159, 6217, 9171]
def am_MLp : List Nat := am_MLp_0 ++ (am_MLp_1 ++ (am_MLp_2 ++ (am_MLp_3 ++ (am_MLp_4))))

def am_fl (on index ci k : Nat) (ts : List Nat) : Bool := decide (ci < 13) && decide (k < am_nf ci) && decide (ts.head?.bind (fun e => am_FL[e]?) = some (on, index, ci, k))
def am_ml (on index m : Nat) (ts : List Nat) : Bool := decide (ts.head?.bind (fun e => am_ML[e]?) = some (on, index, m))
/-! calls: what is asked of a callee g; fr, lo: the caller's frames and locals' words -/
def am_gm (g : am_M) : Bool := if g.2.2.2.2.2.2.2.2.1 = 3 then decide (am_rn g.2.2.2.2.2.2.2.2.2.1 = g.1.cls) else decide (g.1.cls ≠ "java/lang/invoke/MethodHandle" ∧ g.1.cls ≠ "java/lang/invoke/VarHandle") && decide ((parseMethodDescriptor g.1.desc).map (fun d => d.parameters.length) = some g.2.2.2.2.2.2.2.1) && am_has g.2.2.2.2.2.2.2.2.2.2 0 (.code g.1 g.2.1 g.2.2.1 g.2.2.2.1) && am_has g.2.2.2.2.2.2.2.2.2.2 1 (.initialized g.1.cls) && plainFor g.1 && decide (am_rn g.2.2.2.2.2.2.2.2.2.1 = g.1.cls) && (if g.2.2.2.2.2.2.2.2.1 = 0 then am_has g.2.2.2.2.2.2.2.2.2.2 2 (.instanceMethod g.1) && am_has g.2.2.2.2.2.2.2.2.2.2 3 (.selects g.1.cls g.1 g.1) else if g.2.2.2.2.2.2.2.2.1 = 1 then am_has g.2.2.2.2.2.2.2.2.2.2 2 (.static g.1) else am_has g.2.2.2.2.2.2.2.2.2.2 2 (.instanceMethod g.1) && decide (g.1.name = "<init>") && decide (g.2.2.2.1 = none))
def am_gc (g : am_M) (n fr lo : Nat) : Bool := decide (g.2.2.2.2.2.2.2.1 = n) && decide (g.2.2.2.2.2.1 + 1 ≤ fr) && decide (8 + (g.2.2.1 + 11) + g.2.2.2.2.2.2.1 ≤ lo)
def am_mv (g : am_M) (on index m b fr lo : Nat) (ts : List Nat) : Bool := decide (0 < b) && am_gc g (b - 1) fr lo && am_ml on index m ts && decide (g.2.2.2.2.2.2.2.2.1 = 0)
def am_ms (g : am_M) (on index m b fr lo : Nat) (ts : List Nat) : Bool := am_gc g b fr lo && am_ml on index m ts && decide (g.2.2.2.2.2.2.2.2.1 = 1)
def am_mi (g : am_M) (on index m b fr lo : Nat) (ts : List Nat) : Bool := decide (0 < b) && am_gc g (b - 1) fr lo && am_ml on index m ts && decide (g.2.2.2.2.2.2.2.2.1 = 2)
def am_nl : List (String × Nat × MethodName × String) := [("PassScreener$Sky", 21, yX2_init, "PassScreener"), ("PassScreener$Trials", 13, yX2_init, "PassScreener"), ("PassScreener", 9, yX9_init, "PassScreener"), ("PassScreener", 77, yX6_init, "PassScreener"), ("PassScreener", 84, yX4_init, "PassScreener")]
def am_mn (g : am_M) (on index b fr lo : Nat) : Bool := decide (0 < b) && am_gc g (b - 1) fr lo && decide ((am_rn on, index, g.1, "PassScreener") ∈ am_nl) && decide (g.2.2.2.2.2.2.2.2.1 = 2)

def am_x_iconst (X : am_X) (q : am_I) (i : Nat) (ls st : List Value) (S : am_S) : Option am_R := am_go (i + 1) ls (.int (Int32.ofInt q.2.2.2.1) :: st) S
def am_x_bipush (X : am_X) (q : am_I) (i : Nat) (ls st : List Value) (S : am_S) : Option am_R := am_go (i + 1) ls (.int (Int32.ofInt q.2.2.2.1) :: st) S
def am_x_sipush (X : am_X) (q : am_I) (i : Nat) (ls st : List Value) (S : am_S) : Option am_R := am_go (i + 1) ls (.int (Int32.ofInt q.2.2.2.1) :: st) S
def am_x_ldc (X : am_X) (q : am_I) (i : Nat) (ls st : List Value) (S : am_S) : Option am_R := am_go (i + 1) ls (.int (Int32.ofInt q.2.2.2.1) :: st) S
def am_x_ldcw (X : am_X) (q : am_I) (i : Nat) (ls st : List Value) (S : am_S) : Option am_R := am_go (i + 1) ls (.int (Int32.ofInt q.2.2.2.1) :: st) S
def am_x_iload (X : am_X) (q : am_I) (i : Nat) (ls st : List Value) (S : am_S) : Option am_R := match ls[q.2.1]? with
    | some (.int x) => am_go (i + 1) ls (.int x :: st) S
    | _ => none
def am_x_aload (X : am_X) (q : am_I) (i : Nat) (ls st : List Value) (S : am_S) : Option am_R := match ls[q.2.1]? with
    | some (.ref x) => am_go (i + 1) ls (.ref x :: st) S
    | some (.retAddr x) => am_go (i + 1) ls (.retAddr x :: st) S
    | _ => none
def am_x_lload (X : am_X) (q : am_I) (i : Nat) (ls st : List Value) (S : am_S) : Option am_R := match ls[q.2.1]? with
    | some (.long x) => am_go (i + 1) ls (.long x :: st) S
    | _ => none
def am_x_istore (X : am_X) (q : am_I) (i : Nat) (ls st : List Value) (S : am_S) : Option am_R := match st with
    | .int x :: r => if q.2.1 < ls.length then am_go (i + 1) (am_st ls q.2.1 (.int x)) r S else none
    | _ => none
def am_x_astore (X : am_X) (q : am_I) (i : Nat) (ls st : List Value) (S : am_S) : Option am_R := match st with
    | .ref x :: r => if q.2.1 < ls.length then am_go (i + 1) (am_st ls q.2.1 (.ref x)) r S else none
    | .retAddr x :: r => if q.2.1 < ls.length then am_go (i + 1) (am_st ls q.2.1 (.retAddr x)) r S else none
    | _ => none
def am_x_lstore (X : am_X) (q : am_I) (i : Nat) (ls st : List Value) (S : am_S) : Option am_R := match st with
    | .long x :: r => if q.2.1 + 1 < ls.length then am_go (i + 1) (am_st2 ls q.2.1 (.long x)) r S else none
    | _ => none
def am_x_iinc (X : am_X) (q : am_I) (i : Nat) (ls st : List Value) (S : am_S) : Option am_R := match ls[q.2.1]? with
    | some (.int x) => am_go (i + 1) (am_st ls q.2.1 (.int (x + Int32.ofInt q.2.2.2.1))) st S
    | _ => none
def am_x_iadd (X : am_X) (q : am_I) (i : Nat) (ls st : List Value) (S : am_S) : Option am_R := match st with
    | .int y :: .int x :: r => am_go (i + 1) ls (.int (x + y) :: r) S
    | _ => none
def am_x_isub (X : am_X) (q : am_I) (i : Nat) (ls st : List Value) (S : am_S) : Option am_R := match st with
    | .int y :: .int x :: r => am_go (i + 1) ls (.int (x - y) :: r) S
    | _ => none
def am_x_imul (X : am_X) (q : am_I) (i : Nat) (ls st : List Value) (S : am_S) : Option am_R := match st with
    | .int y :: .int x :: r => am_go (i + 1) ls (.int (x * y) :: r) S
    | _ => none
def am_x_iand (X : am_X) (q : am_I) (i : Nat) (ls st : List Value) (S : am_S) : Option am_R := match st with
    | .int y :: .int x :: r => am_go (i + 1) ls (.int (x &&& y) :: r) S
    | _ => none
def am_x_ior (X : am_X) (q : am_I) (i : Nat) (ls st : List Value) (S : am_S) : Option am_R := match st with
    | .int y :: .int x :: r => am_go (i + 1) ls (.int (x ||| y) :: r) S
    | _ => none
def am_x_ixor (X : am_X) (q : am_I) (i : Nat) (ls st : List Value) (S : am_S) : Option am_R := match st with
    | .int y :: .int x :: r => am_go (i + 1) ls (.int (x ^^^ y) :: r) S
    | _ => none
def am_x_ishl (X : am_X) (q : am_I) (i : Nat) (ls st : List Value) (S : am_S) : Option am_R := match st with
    | .int y :: .int x :: r => am_go (i + 1) ls (.int (x <<< (y &&& 31)) :: r) S
    | _ => none
def am_x_ishr (X : am_X) (q : am_I) (i : Nat) (ls st : List Value) (S : am_S) : Option am_R := match st with
    | .int y :: .int x :: r => am_go (i + 1) ls (.int (x >>> (y &&& 31)) :: r) S
    | _ => none
def am_x_iushr (X : am_X) (q : am_I) (i : Nat) (ls st : List Value) (S : am_S) : Option am_R := match st with
    | .int y :: .int x :: r => am_go (i + 1) ls (.int ((x.toUInt32 >>> (y.toUInt32 &&& Int32.toUInt32 31)).toInt32) :: r) S
    | _ => none
def am_x_ineg (X : am_X) (q : am_I) (i : Nat) (ls st : List Value) (S : am_S) : Option am_R := match st with
    | .int x :: r => am_go (i + 1) ls (.int (-x) :: r) S
    | _ => none
def am_x_idiv (X : am_X) (q : am_I) (i : Nat) (ls st : List Value) (S : am_S) : Option am_R := match st with
    | .int y :: .int x :: r => if y = 0 then none else am_go (i + 1) ls (.int (x / y) :: r) S
    | _ => none
def am_x_irem (X : am_X) (q : am_I) (i : Nat) (ls st : List Value) (S : am_S) : Option am_R := match st with
    | .int y :: .int x :: r => if y = 0 then none else am_go (i + 1) ls (.int (x - x / y * y) :: r) S
    | _ => none
def am_x_ladd (X : am_X) (q : am_I) (i : Nat) (ls st : List Value) (S : am_S) : Option am_R := match st with
    | .long y :: .long x :: r => am_go (i + 1) ls (.long (x + y) :: r) S
    | _ => none
def am_x_lsub (X : am_X) (q : am_I) (i : Nat) (ls st : List Value) (S : am_S) : Option am_R := match st with
    | .long y :: .long x :: r => am_go (i + 1) ls (.long (x - y) :: r) S
    | _ => none
def am_x_lmul (X : am_X) (q : am_I) (i : Nat) (ls st : List Value) (S : am_S) : Option am_R := match st with
    | .long y :: .long x :: r => am_go (i + 1) ls (.long (x * y) :: r) S
    | _ => none
def am_x_land (X : am_X) (q : am_I) (i : Nat) (ls st : List Value) (S : am_S) : Option am_R := match st with
    | .long y :: .long x :: r => am_go (i + 1) ls (.long (x &&& y) :: r) S
    | _ => none
def am_x_lor (X : am_X) (q : am_I) (i : Nat) (ls st : List Value) (S : am_S) : Option am_R := match st with
    | .long y :: .long x :: r => am_go (i + 1) ls (.long (x ||| y) :: r) S
    | _ => none
def am_x_lshl (X : am_X) (q : am_I) (i : Nat) (ls st : List Value) (S : am_S) : Option am_R := match st with
    | .int y :: .long x :: r => am_go (i + 1) ls (.long (x <<< (y.toInt64 &&& 63)) :: r) S
    | _ => none
def am_x_lushr (X : am_X) (q : am_I) (i : Nat) (ls st : List Value) (S : am_S) : Option am_R := match st with
    | .int y :: .long x :: r => am_go (i + 1) ls (.long ((x.toUInt64 >>> (y.toInt64.toUInt64 &&& Int64.toUInt64 63)).toInt64) :: r) S
    | _ => none
def am_x_lrem (X : am_X) (q : am_I) (i : Nat) (ls st : List Value) (S : am_S) : Option am_R := match st with
    | .long y :: .long x :: r => if y = 0 then none else am_go (i + 1) ls (.long (x - x / y * y) :: r) S
    | _ => none
def am_x_i2l (X : am_X) (q : am_I) (i : Nat) (ls st : List Value) (S : am_S) : Option am_R := match st with
    | .int x :: r => am_go (i + 1) ls (.long x.toInt64 :: r) S
    | _ => none
def am_x_l2i (X : am_X) (q : am_I) (i : Nat) (ls st : List Value) (S : am_S) : Option am_R := match st with
    | .long x :: r => am_go (i + 1) ls (.int x.toInt32 :: r) S
    | _ => none
def am_x_i2c (X : am_X) (q : am_I) (i : Nat) (ls st : List Value) (S : am_S) : Option am_R := match st with
    | .int x :: r => am_go (i + 1) ls (.int ((x.toUInt32 % 65536).toInt32) :: r) S
    | _ => none
def am_x_lconst (X : am_X) (q : am_I) (i : Nat) (ls st : List Value) (S : am_S) : Option am_R := am_go (i + 1) ls (.long (Int64.ofNat q.2.1) :: st) S
def am_x_ldc2 (X : am_X) (q : am_I) (i : Nat) (ls st : List Value) (S : am_S) : Option am_R := am_go (i + 1) ls (.long (Int64.ofInt q.2.2.2.1) :: st) S
def am_x_dup (X : am_X) (q : am_I) (i : Nat) (ls st : List Value) (S : am_S) : Option am_R := match st with
    | x :: r => if x.category = 1 then am_go (i + 1) ls (x :: x :: r) S else none
    | _ => none
def am_x_pop (X : am_X) (q : am_I) (i : Nat) (ls st : List Value) (S : am_S) : Option am_R := match st with
    | x :: r => if x.category = 1 then am_go (i + 1) ls r S else none
    | _ => none
def am_x_dup2 (X : am_X) (q : am_I) (i : Nat) (ls st : List Value) (S : am_S) : Option am_R := match st with
    | x :: y :: r => if x.category = 1 ∧ y.category = 1 then am_go (i + 1) ls (x :: y :: x :: y :: r) S else none
    | _ => none
def am_x_ifc (X : am_X) (q : am_I) (i : Nat) (ls st : List Value) (S : am_S) : Option am_R := match st with
    | .int x :: r => if am_cmp q.2.2.1 x 0 then am_go q.2.1 ls r S else am_go (i + 1) ls r S
    | _ => none
def am_x_icmp (X : am_X) (q : am_I) (i : Nat) (ls st : List Value) (S : am_S) : Option am_R := match st with
    | .int y :: .int x :: r => if am_cmp q.2.2.1 x y then am_go q.2.1 ls r S else am_go (i + 1) ls r S
    | _ => none
def am_x_goto (X : am_X) (q : am_I) (i : Nat) (ls st : List Value) (S : am_S) : Option am_R := am_go q.2.1 ls st S
def am_x_tsw (X : am_X) (q : am_I) (i : Nat) (ls st : List Value) (S : am_S) : Option am_R := match st with
    | .int x :: r => if x.toInt < q.2.2.2.1 ∨ q.2.2.2.1 + (q.2.2.2.2.length : Int) ≤ x.toInt then am_go q.2.1 ls r S else match q.2.2.2.2[(x.toInt - q.2.2.2.1).toNat]? with
      | some t => am_go t ls r S
      | none => none
    | _ => none
def am_x_getf (X : am_X) (q : am_I) (i : Nat) (ls st : List Value) (S : am_S) : Option am_R := match st with
    | .ref a :: r => if a < S.1.1 ∧ (S.2.1 a).1 = q.2.1 ∧ q.2.2.1 < (S.2.1 a).2 then (if am_fv S a q.2.1 q.2.2.1 = .null then none else am_go (i + 1) ls (am_fv S a q.2.1 q.2.2.1 :: r) S) else none
    | _ => none
def am_x_putf (X : am_X) (q : am_I) (i : Nat) (ls st : List Value) (S : am_S) : Option am_R := match st with
    | .int x :: .ref a :: r => if a < S.1.1 ∧ (S.2.1 a).1 = q.2.1 ∧ q.2.2.1 < (S.2.1 a).2 ∧ narrow (am_ft q.2.1 q.2.2.1) (.int x) = .int x ∧ fits (am_ft q.2.1 q.2.2.1) (.int x) = true then am_go (i + 1) ls r (am_setI S a q.2.2.1 x) else none
    | _ => none
def am_x_putr (X : am_X) (q : am_I) (i : Nat) (ls st : List Value) (S : am_S) : Option am_R := match st with
    | .ref x :: .ref a :: r => if a < S.1.1 ∧ (S.2.1 a).1 = q.2.1 ∧ q.2.2.1 < (S.2.1 a).2 then am_go (i + 1) ls r (am_setR S a q.2.2.1 x) else none
    | _ => none
def am_x_iald (X : am_X) (q : am_I) (i : Nat) (ls st : List Value) (S : am_S) : Option am_R := match st with
    | .int j :: .ref a :: r => if a < S.1.1 ∧ (S.2.1 a).1 = 20 ∧ ¬ (j < 0 ∨ (S.2.1 a).2 ≤ j.toNatClampNeg) then am_go (i + 1) ls (.int (S.2.2.1 a j.toNatClampNeg) :: r) S else none
    | .int j :: .retAddr t :: r => if (t = 0 ∨ t = 2) ∧ ¬ (j < 0 ∨ (X t).1 ≤ j.toNatClampNeg) then am_go (i + 1) ls (.int ((X t).2 j.toNatClampNeg) :: r) S else none
    | _ => none
def am_x_iast (X : am_X) (q : am_I) (i : Nat) (ls st : List Value) (S : am_S) : Option am_R := match st with
    | .int x :: .int j :: .ref a :: r => if a < S.1.1 ∧ (S.2.1 a).1 = 20 ∧ ¬ (j < 0 ∨ (S.2.1 a).2 ≤ j.toNatClampNeg) then am_go (i + 1) ls r (am_setI S a j.toNatClampNeg x) else none
    | _ => none
def am_x_zald (X : am_X) (q : am_I) (i : Nat) (ls st : List Value) (S : am_S) : Option am_R := match st with
    | .int j :: .ref a :: r => if a < S.1.1 ∧ (S.2.1 a).1 = 21 ∧ ¬ (j < 0 ∨ (S.2.1 a).2 ≤ j.toNatClampNeg) then am_go (i + 1) ls (.int (S.2.2.1 a j.toNatClampNeg) :: r) S else none
    | .int j :: .retAddr t :: r => if t = 3 ∧ ¬ (j < 0 ∨ (X t).1 ≤ j.toNatClampNeg) then am_go (i + 1) ls (.int ((X t).2 j.toNatClampNeg) :: r) S else none
    | _ => none
def am_x_zast (X : am_X) (q : am_I) (i : Nat) (ls st : List Value) (S : am_S) : Option am_R := match st with
    | .int x :: .int j :: .ref a :: r => if a < S.1.1 ∧ (S.2.1 a).1 = 21 ∧ ¬ (j < 0 ∨ (S.2.1 a).2 ≤ j.toNatClampNeg) ∧ vp_nar .boolean x = x then am_go (i + 1) ls r (am_setI S a j.toNatClampNeg x) else none
    | _ => none
def am_x_lald (X : am_X) (q : am_I) (i : Nat) (ls st : List Value) (S : am_S) : Option am_R := match st with
    | .int j :: .ref a :: r => if a < S.1.1 ∧ (S.2.1 a).1 = 22 ∧ ¬ (j < 0 ∨ (S.2.1 a).2 ≤ j.toNatClampNeg) then am_go (i + 1) ls (.long (S.2.2.2.1 a j.toNatClampNeg) :: r) S else none
    | _ => none
def am_x_last (X : am_X) (q : am_I) (i : Nat) (ls st : List Value) (S : am_S) : Option am_R := match st with
    | .long x :: .int j :: .ref a :: r => if a < S.1.1 ∧ (S.2.1 a).1 = 22 ∧ ¬ (j < 0 ∨ (S.2.1 a).2 ≤ j.toNatClampNeg) then am_go (i + 1) ls r (am_setJ S a j.toNatClampNeg x) else none
    | _ => none
def am_x_aald (X : am_X) (q : am_I) (i : Nat) (ls st : List Value) (S : am_S) : Option am_R := match st with
    | .int j :: .ref a :: r => if a < S.1.1 ∧ ((S.2.1 a).1 = 23 ∨ (S.2.1 a).1 = 24) ∧ ¬ (j < 0 ∨ (S.2.1 a).2 ≤ j.toNatClampNeg) then match S.2.2.2.2 a j.toNatClampNeg with
      | some v => am_go (i + 1) ls (.ref v :: r) S
      | none => none else none
    | _ => none
def am_x_aast (X : am_X) (q : am_I) (i : Nat) (ls st : List Value) (S : am_S) : Option am_R := match st with
    | .ref x :: .int j :: .ref a :: r => if a < S.1.1 ∧ (S.2.1 a).1 = 23 ∧ ¬ (j < 0 ∨ (S.2.1 a).2 ≤ j.toNatClampNeg) ∧ x < S.1.1 ∧ (S.2.1 x).1 = 2 then am_go (i + 1) ls r (am_setR S a j.toNatClampNeg x) else none
    | _ => none
def am_x_alen (X : am_X) (q : am_I) (i : Nat) (ls st : List Value) (S : am_S) : Option am_R := match st with
    | .ref a :: r => if a < S.1.1 ∧ 20 ≤ (S.2.1 a).1 ∧ (S.2.1 a).1 < 25 then am_go (i + 1) ls (.int (Int32.ofNat (S.2.1 a).2) :: r) S else none
    | .retAddr t :: r => if t = 0 ∨ t = 2 ∨ t = 3 then am_go (i + 1) ls (.int (Int32.ofNat (X t).1) :: r) S else none
    | _ => none
def am_x_gets (X : am_X) (q : am_I) (i : Nat) (ls st : List Value) (S : am_S) : Option am_R := am_go (i + 1) ls ((if q.2.2.1 = 0 then .retAddr 0 else if q.2.2.1 = 1 then .int 1 else .retAddr 9) :: st) S
def am_x_gets_of_text (X : am_X) (q : am_I) (i : Nat) (ls st : List Value) (S : am_S) : Option am_R := match st with
    | .retAddr t :: r => if t = 1 then am_go (i + 1) ls ((if q.2.2.1 = 0 then .int 0 else .retAddr 3) :: r) S else none
    | _ => none
def am_x_ldcs (X : am_X) (q : am_I) (i : Nat) (ls st : List Value) (S : am_S) : Option am_R := am_go (i + 1) ls (.retAddr 1 :: st) S
def am_x_invv (X : am_X) (q : am_I) (i : Nat) (ls st : List Value) (S : am_S) : Option am_R := match st[q.2.2.1 - 1]? with
    | some (.ref a) => if 0 < q.2.2.1 ∧ a < S.1.1 ∧ q.2.2.2.2[1]? = some (S.2.1 a).1 then if q.2.2.1 ≤ st.length ∧ ((st.drop q.2.2.1).map Value.category).sum ≤ 8 then some (.inr (.inr (q.2.1, (st.take q.2.2.1).reverse, st.drop q.2.2.1))) else none else none
    | _ => none
def am_x_invs (X : am_X) (q : am_I) (i : Nat) (ls st : List Value) (S : am_S) : Option am_R := if q.2.2.1 ≤ st.length ∧ ((st.drop q.2.2.1).map Value.category).sum ≤ 8 then some (.inr (.inr (q.2.1, (st.take q.2.2.1).reverse, st.drop q.2.2.1))) else none
def am_x_invi (X : am_X) (q : am_I) (i : Nat) (ls st : List Value) (S : am_S) : Option am_R := match st[q.2.2.1 - 1]? with
    | some (.ref a) => if 0 < q.2.2.1 then if q.2.2.1 ≤ st.length ∧ ((st.drop q.2.2.1).map Value.category).sum ≤ 8 then some (.inr (.inr (q.2.1, (st.take q.2.2.1).reverse, st.drop q.2.2.1))) else none else none
    | _ => none
def am_x_invn (X : am_X) (q : am_I) (i : Nat) (ls st : List Value) (S : am_S) : Option am_R := match st[q.2.2.1 - 1]? with
    | some (.ref a) => if 0 < q.2.2.1 then if q.2.2.1 ≤ st.length ∧ ((st.drop q.2.2.1).map Value.category).sum ≤ 8 then some (.inr (.inr (q.2.1, (st.take q.2.2.1).reverse, st.drop q.2.2.1))) else none else none
    | _ => none
def am_x_invt (X : am_X) (q : am_I) (i : Nat) (ls st : List Value) (S : am_S) : Option am_R := match st[q.2.2.1 - 1]? with
    | some (.retAddr t) => if 0 < q.2.2.1 ∧ t = 1 then if q.2.2.1 ≤ st.length ∧ ((st.drop q.2.2.1).map Value.category).sum ≤ 8 then some (.inr (.inr (q.2.1, (st.take q.2.2.1).reverse, st.drop q.2.2.1))) else none else none
    | _ => none
def am_x_oini (X : am_X) (q : am_I) (i : Nat) (ls st : List Value) (S : am_S) : Option am_R := match st with
    | .ref a :: r => if (r.map Value.category).sum ≤ 8 then am_go (i + 1) ls r S else none
    | _ => none
def am_x_new (X : am_X) (q : am_I) (i : Nat) (ls st : List Value) (S : am_S) : Option am_R := am_go (i + 1) ls (.ref S.1.1 :: st) (am_mk S q.2.1 (am_nf q.2.1))
def am_x_newa (X : am_X) (q : am_I) (i : Nat) (ls st : List Value) (S : am_S) : Option am_R := match st with
    | .int n :: r => if ¬ n < 0 ∧ n.toNatClampNeg ≤ 10000 then am_go (i + 1) ls (.ref S.1.1 :: r) (am_mk S q.2.1 n.toNatClampNeg) else none
    | _ => none
def am_x_anew (X : am_X) (q : am_I) (i : Nat) (ls st : List Value) (S : am_S) : Option am_R := match st with
    | .int n :: r => if ¬ n < 0 ∧ n.toNatClampNeg ≤ 10000 then am_go (i + 1) ls (.ref S.1.1 :: r) (am_mk S 23 n.toNatClampNeg) else none
    | _ => none
def am_x_mnew (X : am_X) (q : am_I) (i : Nat) (ls st : List Value) (S : am_S) : Option am_R := match st with
    | .int k :: .int n :: r => if ¬ n < 0 ∧ ¬ k < 0 ∧ n.toNatClampNeg ≤ 10000 ∧ k.toNatClampNeg ≤ 10000 then am_go (i + 1) ls (.ref S.1.1 :: r) (am_mm S n.toNatClampNeg k.toNatClampNeg) else none
    | _ => none
def am_x_acpy (X : am_X) (q : am_I) (i : Nat) (ls st : List Value) (S : am_S) : Option am_R := match st with
    | .int n :: .int dp :: .ref b :: .int sp :: .ref a :: r => if a < S.1.1 ∧ b < S.1.1 ∧ (S.2.1 a).1 = 20 ∧ (S.2.1 b).1 = 20 ∧ ¬ sp < 0 ∧ ¬ dp < 0 ∧ ¬ n < 0 ∧ sp.toNatClampNeg + n.toNatClampNeg ≤ (S.2.1 a).2 ∧ dp.toNatClampNeg + n.toNatClampNeg ≤ (S.2.1 b).2 ∧ (r.map Value.category).sum ≤ 8 then am_go (i + 1) ls r (am_cp S a b sp.toNatClampNeg dp.toNatClampNeg n.toNatClampNeg) else none
    | _ => none
def am_x_iret (X : am_X) (q : am_I) (i : Nat) (ls st : List Value) (S : am_S) : Option am_R := match st with
    | [.int x] => if narrow (am_nt q.2.2.1) (.int x) = .int x then some (.inr (.inl (some (.int x), S))) else none
    | _ => none
def am_x_lret (X : am_X) (q : am_I) (i : Nat) (ls st : List Value) (S : am_S) : Option am_R := match st with
    | [.long x] => some (.inr (.inl (some (.long x), S)))
    | _ => none
def am_x_aret (X : am_X) (q : am_I) (i : Nat) (ls st : List Value) (S : am_S) : Option am_R := match st with
    | [.ref x] => some (.inr (.inl (some (.ref x), S)))
    | _ => none
def am_x_vret (X : am_X) (q : am_I) (i : Nat) (ls st : List Value) (S : am_S) : Option am_R := match st with
    | [] => some (.inr (.inl (none, S)))
    | _ => none
def am_step (X : am_X) (q : am_I) (i : Nat) (ls st : List Value) (S : am_S) : Option am_R :=
  if q.1 = 0 then am_x_iconst X q i ls st S else
  if q.1 = 1 then am_x_bipush X q i ls st S else
  if q.1 = 2 then am_x_sipush X q i ls st S else
  if q.1 = 3 then am_x_ldc X q i ls st S else
  if q.1 = 4 then am_x_ldcw X q i ls st S else
  if q.1 = 5 then am_x_iload X q i ls st S else
  if q.1 = 6 then am_x_aload X q i ls st S else
  if q.1 = 7 then am_x_lload X q i ls st S else
  if q.1 = 8 then am_x_istore X q i ls st S else
  if q.1 = 9 then am_x_astore X q i ls st S else
  if q.1 = 10 then am_x_lstore X q i ls st S else
  if q.1 = 11 then am_x_iinc X q i ls st S else
  if q.1 = 12 then am_x_iadd X q i ls st S else
  if q.1 = 13 then am_x_isub X q i ls st S else
  if q.1 = 14 then am_x_imul X q i ls st S else
  if q.1 = 15 then am_x_iand X q i ls st S else
  if q.1 = 16 then am_x_ior X q i ls st S else
  if q.1 = 17 then am_x_ixor X q i ls st S else
  if q.1 = 18 then am_x_ishl X q i ls st S else
  if q.1 = 19 then am_x_ishr X q i ls st S else
  if q.1 = 20 then am_x_iushr X q i ls st S else
  if q.1 = 21 then am_x_ineg X q i ls st S else
  if q.1 = 22 then am_x_idiv X q i ls st S else
  if q.1 = 23 then am_x_irem X q i ls st S else
  if q.1 = 24 then am_x_ladd X q i ls st S else
  if q.1 = 25 then am_x_lsub X q i ls st S else
  if q.1 = 26 then am_x_lmul X q i ls st S else
  if q.1 = 27 then am_x_land X q i ls st S else
  if q.1 = 28 then am_x_lor X q i ls st S else
  if q.1 = 29 then am_x_lshl X q i ls st S else
  if q.1 = 30 then am_x_lushr X q i ls st S else
  if q.1 = 31 then am_x_lrem X q i ls st S else
  if q.1 = 32 then am_x_i2l X q i ls st S else
  if q.1 = 33 then am_x_l2i X q i ls st S else
  if q.1 = 34 then am_x_i2c X q i ls st S else
  if q.1 = 35 then am_x_lconst X q i ls st S else
  if q.1 = 36 then am_x_ldc2 X q i ls st S else
  if q.1 = 37 then am_x_dup X q i ls st S else
  if q.1 = 38 then am_x_pop X q i ls st S else
  if q.1 = 39 then am_x_dup2 X q i ls st S else
  if q.1 = 40 then am_x_ifc X q i ls st S else
  if q.1 = 41 then am_x_icmp X q i ls st S else
  if q.1 = 42 then am_x_goto X q i ls st S else
  if q.1 = 43 then am_x_tsw X q i ls st S else
  if q.1 = 44 then am_x_getf X q i ls st S else
  if q.1 = 45 then am_x_putf X q i ls st S else
  if q.1 = 46 then am_x_putr X q i ls st S else
  if q.1 = 47 then am_x_iald X q i ls st S else
  if q.1 = 48 then am_x_iast X q i ls st S else
  if q.1 = 49 then am_x_zald X q i ls st S else
  if q.1 = 50 then am_x_zast X q i ls st S else
  if q.1 = 51 then am_x_lald X q i ls st S else
  if q.1 = 52 then am_x_last X q i ls st S else
  if q.1 = 53 then am_x_aald X q i ls st S else
  if q.1 = 54 then am_x_aast X q i ls st S else
  if q.1 = 55 then am_x_alen X q i ls st S else
  if q.1 = 56 then am_x_gets X q i ls st S else
  if q.1 = 57 then am_x_gets_of_text X q i ls st S else
  if q.1 = 58 then am_x_ldcs X q i ls st S else
  if q.1 = 60 then am_x_invv X q i ls st S else
  if q.1 = 61 then am_x_invs X q i ls st S else
  if q.1 = 62 then am_x_invi X q i ls st S else
  if q.1 = 63 then am_x_invn X q i ls st S else
  if q.1 = 64 then am_x_invt X q i ls st S else
  if q.1 = 65 then am_x_oini X q i ls st S else
  if q.1 = 66 then am_x_new X q i ls st S else
  if q.1 = 67 then am_x_newa X q i ls st S else
  if q.1 = 68 then am_x_anew X q i ls st S else
  if q.1 = 69 then am_x_mnew X q i ls st S else
  if q.1 = 70 then am_x_acpy X q i ls st S else
  if q.1 = 71 then am_x_iret X q i ls st S else
  if q.1 = 72 then am_x_lret X q i ls st S else
  if q.1 = 73 then am_x_aret X q i ls st S else
  if q.1 = 74 then am_x_vret X q i ls st S else
  none
def am_c_iconst (G : Nat → am_M) (on : Nat) (mn : String) (cc : ByteArray) (rt : Option FieldType) (fr lo : Nat) (P : List (Nat × am_I)) (i pc : Nat) (q : am_I) : Bool := am_de cc pc (.iconst q.2.2.2.1) 1 && am_nx P i pc 1
def am_c_bipush (G : Nat → am_M) (on : Nat) (mn : String) (cc : ByteArray) (rt : Option FieldType) (fr lo : Nat) (P : List (Nat × am_I)) (i pc : Nat) (q : am_I) : Bool := am_de cc pc (.bipush q.2.2.2.1) 2 && decide ((Int8.ofInt q.2.2.2.1).toInt32 = Int32.ofInt q.2.2.2.1) && am_nx P i pc 2
def am_c_sipush (G : Nat → am_M) (on : Nat) (mn : String) (cc : ByteArray) (rt : Option FieldType) (fr lo : Nat) (P : List (Nat × am_I)) (i pc : Nat) (q : am_I) : Bool := am_de cc pc (.sipush q.2.2.2.1) 3 && decide ((Int16.ofInt q.2.2.2.1).toInt32 = Int32.ofInt q.2.2.2.1) && am_nx P i pc 3
def am_c_ldc (G : Nat → am_M) (on : Nat) (mn : String) (cc : ByteArray) (rt : Option FieldType) (fr lo : Nat) (P : List (Nat × am_I)) (i pc : Nat) (q : am_I) : Bool := am_de cc pc (.ldc q.2.1) 2 && am_has q.2.2.2.2 0 (.constant (am_rn on) q.2.1 (Int32.ofInt q.2.2.2.1)) && am_nx P i pc 2
def am_c_ldcw (G : Nat → am_M) (on : Nat) (mn : String) (cc : ByteArray) (rt : Option FieldType) (fr lo : Nat) (P : List (Nat × am_I)) (i pc : Nat) (q : am_I) : Bool := am_de cc pc (.ldc_w q.2.1) 3 && am_has q.2.2.2.2 0 (.constant (am_rn on) q.2.1 (Int32.ofInt q.2.2.2.1)) && am_nx P i pc 3
def am_c_iload (G : Nat → am_M) (on : Nat) (mn : String) (cc : ByteArray) (rt : Option FieldType) (fr lo : Nat) (P : List (Nat × am_I)) (i pc : Nat) (q : am_I) : Bool := (if q.2.2.1 = 0 then (List.finRange 4).any (fun k => decide ((k : Nat) = q.2.1) && am_de cc pc (.iload_n k) 1) && am_nx P i pc 1 else am_de cc pc (.iload q.2.1) 2 && am_nx P i pc 2)
def am_c_aload (G : Nat → am_M) (on : Nat) (mn : String) (cc : ByteArray) (rt : Option FieldType) (fr lo : Nat) (P : List (Nat × am_I)) (i pc : Nat) (q : am_I) : Bool := (if q.2.2.1 = 0 then (List.finRange 4).any (fun k => decide ((k : Nat) = q.2.1) && am_de cc pc (.aload_n k) 1) && am_nx P i pc 1 else am_de cc pc (.aload q.2.1) 2 && am_nx P i pc 2)
def am_c_lload (G : Nat → am_M) (on : Nat) (mn : String) (cc : ByteArray) (rt : Option FieldType) (fr lo : Nat) (P : List (Nat × am_I)) (i pc : Nat) (q : am_I) : Bool := (if q.2.2.1 = 0 then (List.finRange 4).any (fun k => decide ((k : Nat) = q.2.1) && am_de cc pc (.lload_n k) 1) && am_nx P i pc 1 else am_de cc pc (.lload q.2.1) 2 && am_nx P i pc 2)
def am_c_istore (G : Nat → am_M) (on : Nat) (mn : String) (cc : ByteArray) (rt : Option FieldType) (fr lo : Nat) (P : List (Nat × am_I)) (i pc : Nat) (q : am_I) : Bool := (if q.2.2.1 = 0 then (List.finRange 4).any (fun k => decide ((k : Nat) = q.2.1) && am_de cc pc (.istore_n k) 1) && am_nx P i pc 1 else am_de cc pc (.istore q.2.1) 2 && am_nx P i pc 2)
def am_c_astore (G : Nat → am_M) (on : Nat) (mn : String) (cc : ByteArray) (rt : Option FieldType) (fr lo : Nat) (P : List (Nat × am_I)) (i pc : Nat) (q : am_I) : Bool := (if q.2.2.1 = 0 then (List.finRange 4).any (fun k => decide ((k : Nat) = q.2.1) && am_de cc pc (.astore_n k) 1) && am_nx P i pc 1 else am_de cc pc (.astore q.2.1) 2 && am_nx P i pc 2)
def am_c_lstore (G : Nat → am_M) (on : Nat) (mn : String) (cc : ByteArray) (rt : Option FieldType) (fr lo : Nat) (P : List (Nat × am_I)) (i pc : Nat) (q : am_I) : Bool := (if q.2.2.1 = 0 then (List.finRange 4).any (fun k => decide ((k : Nat) = q.2.1) && am_de cc pc (.lstore_n k) 1) && am_nx P i pc 1 else am_de cc pc (.lstore q.2.1) 2 && am_nx P i pc 2)
def am_c_iinc (G : Nat → am_M) (on : Nat) (mn : String) (cc : ByteArray) (rt : Option FieldType) (fr lo : Nat) (P : List (Nat × am_I)) (i pc : Nat) (q : am_I) : Bool := am_de cc pc (.iinc q.2.1 q.2.2.2.1) 3 && am_nx P i pc 3
def am_c_iadd (G : Nat → am_M) (on : Nat) (mn : String) (cc : ByteArray) (rt : Option FieldType) (fr lo : Nat) (P : List (Nat × am_I)) (i pc : Nat) (q : am_I) : Bool := am_de cc pc (.iadd) 1 && am_nx P i pc 1
def am_c_isub (G : Nat → am_M) (on : Nat) (mn : String) (cc : ByteArray) (rt : Option FieldType) (fr lo : Nat) (P : List (Nat × am_I)) (i pc : Nat) (q : am_I) : Bool := am_de cc pc (.isub) 1 && am_nx P i pc 1
def am_c_imul (G : Nat → am_M) (on : Nat) (mn : String) (cc : ByteArray) (rt : Option FieldType) (fr lo : Nat) (P : List (Nat × am_I)) (i pc : Nat) (q : am_I) : Bool := am_de cc pc (.imul) 1 && am_nx P i pc 1
def am_c_iand (G : Nat → am_M) (on : Nat) (mn : String) (cc : ByteArray) (rt : Option FieldType) (fr lo : Nat) (P : List (Nat × am_I)) (i pc : Nat) (q : am_I) : Bool := am_de cc pc (.iand) 1 && am_nx P i pc 1
def am_c_ior (G : Nat → am_M) (on : Nat) (mn : String) (cc : ByteArray) (rt : Option FieldType) (fr lo : Nat) (P : List (Nat × am_I)) (i pc : Nat) (q : am_I) : Bool := am_de cc pc (.ior) 1 && am_nx P i pc 1
def am_c_ixor (G : Nat → am_M) (on : Nat) (mn : String) (cc : ByteArray) (rt : Option FieldType) (fr lo : Nat) (P : List (Nat × am_I)) (i pc : Nat) (q : am_I) : Bool := am_de cc pc (.ixor) 1 && am_nx P i pc 1
def am_c_ishl (G : Nat → am_M) (on : Nat) (mn : String) (cc : ByteArray) (rt : Option FieldType) (fr lo : Nat) (P : List (Nat × am_I)) (i pc : Nat) (q : am_I) : Bool := am_de cc pc (.ishl) 1 && am_nx P i pc 1
def am_c_ishr (G : Nat → am_M) (on : Nat) (mn : String) (cc : ByteArray) (rt : Option FieldType) (fr lo : Nat) (P : List (Nat × am_I)) (i pc : Nat) (q : am_I) : Bool := am_de cc pc (.ishr) 1 && am_nx P i pc 1
def am_c_iushr (G : Nat → am_M) (on : Nat) (mn : String) (cc : ByteArray) (rt : Option FieldType) (fr lo : Nat) (P : List (Nat × am_I)) (i pc : Nat) (q : am_I) : Bool := am_de cc pc (.iushr) 1 && am_nx P i pc 1
def am_c_ineg (G : Nat → am_M) (on : Nat) (mn : String) (cc : ByteArray) (rt : Option FieldType) (fr lo : Nat) (P : List (Nat × am_I)) (i pc : Nat) (q : am_I) : Bool := am_de cc pc (.ineg) 1 && am_nx P i pc 1
def am_c_idiv (G : Nat → am_M) (on : Nat) (mn : String) (cc : ByteArray) (rt : Option FieldType) (fr lo : Nat) (P : List (Nat × am_I)) (i pc : Nat) (q : am_I) : Bool := am_de cc pc (.idiv) 1 && am_nx P i pc 1
def am_c_irem (G : Nat → am_M) (on : Nat) (mn : String) (cc : ByteArray) (rt : Option FieldType) (fr lo : Nat) (P : List (Nat × am_I)) (i pc : Nat) (q : am_I) : Bool := am_de cc pc (.irem) 1 && am_nx P i pc 1
def am_c_ladd (G : Nat → am_M) (on : Nat) (mn : String) (cc : ByteArray) (rt : Option FieldType) (fr lo : Nat) (P : List (Nat × am_I)) (i pc : Nat) (q : am_I) : Bool := am_de cc pc (.ladd) 1 && am_nx P i pc 1
def am_c_lsub (G : Nat → am_M) (on : Nat) (mn : String) (cc : ByteArray) (rt : Option FieldType) (fr lo : Nat) (P : List (Nat × am_I)) (i pc : Nat) (q : am_I) : Bool := am_de cc pc (.lsub) 1 && am_nx P i pc 1
def am_c_lmul (G : Nat → am_M) (on : Nat) (mn : String) (cc : ByteArray) (rt : Option FieldType) (fr lo : Nat) (P : List (Nat × am_I)) (i pc : Nat) (q : am_I) : Bool := am_de cc pc (.lmul) 1 && am_nx P i pc 1
def am_c_land (G : Nat → am_M) (on : Nat) (mn : String) (cc : ByteArray) (rt : Option FieldType) (fr lo : Nat) (P : List (Nat × am_I)) (i pc : Nat) (q : am_I) : Bool := am_de cc pc (.land) 1 && am_nx P i pc 1
def am_c_lor (G : Nat → am_M) (on : Nat) (mn : String) (cc : ByteArray) (rt : Option FieldType) (fr lo : Nat) (P : List (Nat × am_I)) (i pc : Nat) (q : am_I) : Bool := am_de cc pc (.lor) 1 && am_nx P i pc 1
def am_c_lshl (G : Nat → am_M) (on : Nat) (mn : String) (cc : ByteArray) (rt : Option FieldType) (fr lo : Nat) (P : List (Nat × am_I)) (i pc : Nat) (q : am_I) : Bool := am_de cc pc (.lshl) 1 && am_nx P i pc 1
def am_c_lushr (G : Nat → am_M) (on : Nat) (mn : String) (cc : ByteArray) (rt : Option FieldType) (fr lo : Nat) (P : List (Nat × am_I)) (i pc : Nat) (q : am_I) : Bool := am_de cc pc (.lushr) 1 && am_nx P i pc 1
def am_c_lrem (G : Nat → am_M) (on : Nat) (mn : String) (cc : ByteArray) (rt : Option FieldType) (fr lo : Nat) (P : List (Nat × am_I)) (i pc : Nat) (q : am_I) : Bool := am_de cc pc (.lrem) 1 && am_nx P i pc 1
def am_c_i2l (G : Nat → am_M) (on : Nat) (mn : String) (cc : ByteArray) (rt : Option FieldType) (fr lo : Nat) (P : List (Nat × am_I)) (i pc : Nat) (q : am_I) : Bool := am_de cc pc (.i2l) 1 && am_nx P i pc 1
def am_c_l2i (G : Nat → am_M) (on : Nat) (mn : String) (cc : ByteArray) (rt : Option FieldType) (fr lo : Nat) (P : List (Nat × am_I)) (i pc : Nat) (q : am_I) : Bool := am_de cc pc (.l2i) 1 && am_nx P i pc 1
def am_c_i2c (G : Nat → am_M) (on : Nat) (mn : String) (cc : ByteArray) (rt : Option FieldType) (fr lo : Nat) (P : List (Nat × am_I)) (i pc : Nat) (q : am_I) : Bool := am_de cc pc (.i2c) 1 && am_nx P i pc 1
def am_c_lconst (G : Nat → am_M) (on : Nat) (mn : String) (cc : ByteArray) (rt : Option FieldType) (fr lo : Nat) (P : List (Nat × am_I)) (i pc : Nat) (q : am_I) : Bool := (List.finRange 2).any (fun k => decide ((k : Nat) = q.2.1) && am_de cc pc (.lconst k) 1) && am_nx P i pc 1
def am_c_ldc2 (G : Nat → am_M) (on : Nat) (mn : String) (cc : ByteArray) (rt : Option FieldType) (fr lo : Nat) (P : List (Nat × am_I)) (i pc : Nat) (q : am_I) : Bool := am_de cc pc (.ldc2_w q.2.1) 3 && am_has q.2.2.2.2 0 (.constantLong (am_rn on) q.2.1 (Int64.ofInt q.2.2.2.1)) && am_nx P i pc 3
def am_c_dup (G : Nat → am_M) (on : Nat) (mn : String) (cc : ByteArray) (rt : Option FieldType) (fr lo : Nat) (P : List (Nat × am_I)) (i pc : Nat) (q : am_I) : Bool := am_de cc pc (.dup) 1 && am_nx P i pc 1
def am_c_pop (G : Nat → am_M) (on : Nat) (mn : String) (cc : ByteArray) (rt : Option FieldType) (fr lo : Nat) (P : List (Nat × am_I)) (i pc : Nat) (q : am_I) : Bool := am_de cc pc (.pop) 1 && am_nx P i pc 1
def am_c_dup2 (G : Nat → am_M) (on : Nat) (mn : String) (cc : ByteArray) (rt : Option FieldType) (fr lo : Nat) (P : List (Nat × am_I)) (i pc : Nat) (q : am_I) : Bool := am_de cc pc (.dup2) 1 && am_nx P i pc 1
def am_c_ifc (G : Nat → am_M) (on : Nat) (mn : String) (cc : ByteArray) (rt : Option FieldType) (fr lo : Nat) (P : List (Nat × am_I)) (i pc : Nat) (q : am_I) : Bool := am_de cc pc (.ifCond (am_cd q.2.2.1) q.2.2.2.1) 3 && am_nx P i pc 3 && am_tg P pc q.2.1 q.2.2.2.1
def am_c_icmp (G : Nat → am_M) (on : Nat) (mn : String) (cc : ByteArray) (rt : Option FieldType) (fr lo : Nat) (P : List (Nat × am_I)) (i pc : Nat) (q : am_I) : Bool := am_de cc pc (.if_icmp (am_cd q.2.2.1) q.2.2.2.1) 3 && am_nx P i pc 3 && am_tg P pc q.2.1 q.2.2.2.1
def am_c_goto (G : Nat → am_M) (on : Nat) (mn : String) (cc : ByteArray) (rt : Option FieldType) (fr lo : Nat) (P : List (Nat × am_I)) (i pc : Nat) (q : am_I) : Bool := am_de cc pc (.goto q.2.2.2.1) 3 && am_tg P pc q.2.1 q.2.2.2.1
def am_c_tsw (G : Nat → am_M) (on : Nat) (mn : String) (cc : ByteArray) (rt : Option FieldType) (fr lo : Nat) (P : List (Nat × am_I)) (i pc : Nat) (q : am_I) : Bool := am_de cc pc (.tableswitch (am_of P pc q.2.1) q.2.2.2.1 (q.2.2.2.1 + (q.2.2.2.2.length : Int) - 1) (q.2.2.2.2.map (am_of P pc)).toArray) q.2.2.1 && am_tg P pc q.2.1 (am_of P pc q.2.1) && q.2.2.2.2.all (fun t => am_tg P pc t (am_of P pc t))
def am_c_getf (G : Nat → am_M) (on : Nat) (mn : String) (cc : ByteArray) (rt : Option FieldType) (fr lo : Nat) (P : List (Nat × am_I)) (i pc : Nat) (q : am_I) : Bool := am_de cc pc (.getfield q.2.2.2.1.toNat) 3 && am_nx P i pc 3 && am_fl on q.2.2.2.1.toNat q.2.1 q.2.2.1 q.2.2.2.2
def am_c_putf (G : Nat → am_M) (on : Nat) (mn : String) (cc : ByteArray) (rt : Option FieldType) (fr lo : Nat) (P : List (Nat × am_I)) (i pc : Nat) (q : am_I) : Bool := am_de cc pc (.putfield q.2.2.2.1.toNat) 3 && am_nx P i pc 3 && am_fl on q.2.2.2.1.toNat q.2.1 q.2.2.1 q.2.2.2.2 && (am_fd q.2.1 q.2.2.1).2.2.2 == false && (am_ft q.2.1 q.2.2.1 == .int || am_ft q.2.1 q.2.2.1 == .boolean)
def am_c_putr (G : Nat → am_M) (on : Nat) (mn : String) (cc : ByteArray) (rt : Option FieldType) (fr lo : Nat) (P : List (Nat × am_I)) (i pc : Nat) (q : am_I) : Bool := am_de cc pc (.putfield q.2.2.2.1.toNat) 3 && am_nx P i pc 3 && am_fl on q.2.2.2.1.toNat q.2.1 q.2.2.1 q.2.2.2.2 && (am_fd q.2.1 q.2.2.1).2.2.2 == true && (am_fd q.2.1 q.2.2.1).1 == (am_rn on) && mn == "<init>" && am_rt (am_ft q.2.1 q.2.2.1)
def am_c_iald (G : Nat → am_M) (on : Nat) (mn : String) (cc : ByteArray) (rt : Option FieldType) (fr lo : Nat) (P : List (Nat × am_I)) (i pc : Nat) (q : am_I) : Bool := am_de cc pc (.iaload) 1 && am_nx P i pc 1
def am_c_iast (G : Nat → am_M) (on : Nat) (mn : String) (cc : ByteArray) (rt : Option FieldType) (fr lo : Nat) (P : List (Nat × am_I)) (i pc : Nat) (q : am_I) : Bool := am_de cc pc (.iastore) 1 && am_nx P i pc 1
def am_c_zald (G : Nat → am_M) (on : Nat) (mn : String) (cc : ByteArray) (rt : Option FieldType) (fr lo : Nat) (P : List (Nat × am_I)) (i pc : Nat) (q : am_I) : Bool := am_de cc pc (.baload) 1 && am_nx P i pc 1
def am_c_zast (G : Nat → am_M) (on : Nat) (mn : String) (cc : ByteArray) (rt : Option FieldType) (fr lo : Nat) (P : List (Nat × am_I)) (i pc : Nat) (q : am_I) : Bool := am_de cc pc (.bastore) 1 && am_nx P i pc 1
def am_c_lald (G : Nat → am_M) (on : Nat) (mn : String) (cc : ByteArray) (rt : Option FieldType) (fr lo : Nat) (P : List (Nat × am_I)) (i pc : Nat) (q : am_I) : Bool := am_de cc pc (.laload) 1 && am_nx P i pc 1
def am_c_last (G : Nat → am_M) (on : Nat) (mn : String) (cc : ByteArray) (rt : Option FieldType) (fr lo : Nat) (P : List (Nat × am_I)) (i pc : Nat) (q : am_I) : Bool := am_de cc pc (.lastore) 1 && am_nx P i pc 1
def am_c_aald (G : Nat → am_M) (on : Nat) (mn : String) (cc : ByteArray) (rt : Option FieldType) (fr lo : Nat) (P : List (Nat × am_I)) (i pc : Nat) (q : am_I) : Bool := am_de cc pc (.aaload) 1 && am_nx P i pc 1
def am_c_aast (G : Nat → am_M) (on : Nat) (mn : String) (cc : ByteArray) (rt : Option FieldType) (fr lo : Nat) (P : List (Nat × am_I)) (i pc : Nat) (q : am_I) : Bool := am_de cc pc (.aastore) 1 && am_nx P i pc 1
def am_c_alen (G : Nat → am_M) (on : Nat) (mn : String) (cc : ByteArray) (rt : Option FieldType) (fr lo : Nat) (P : List (Nat × am_I)) (i pc : Nat) (q : am_I) : Bool := am_de cc pc (.arraylength) 1 && am_nx P i pc 1
def am_c_gets (G : Nat → am_M) (on : Nat) (mn : String) (cc : ByteArray) (rt : Option FieldType) (fr lo : Nat) (P : List (Nat × am_I)) (i pc : Nat) (q : am_I) : Bool := am_de cc pc (.getstatic q.2.2.2.1.toNat) 3 && am_nx P i pc 3 && am_has q.2.2.2.2 0 (.fieldLink (am_rn on) q.2.2.2.1.toNat (am_sn q.2.2.1).1 (am_sn q.2.2.1).2.1 (am_sn q.2.2.1).2.2)
def am_c_gets_of_text (G : Nat → am_M) (on : Nat) (mn : String) (cc : ByteArray) (rt : Option FieldType) (fr lo : Nat) (P : List (Nat × am_I)) (i pc : Nat) (q : am_I) : Bool := am_de cc pc (.getfield q.2.2.2.1.toNat) 3 && am_nx P i pc 3 && am_has q.2.2.2.2 0 (if q.2.2.1 = 0 then .fieldLink (am_rn on) q.2.2.2.1.toNat "java/lang/String" "coder" "B" else .fieldLink (am_rn on) q.2.2.2.1.toNat "java/lang/String" "value" "[B")
def am_c_ldcs (G : Nat → am_M) (on : Nat) (mn : String) (cc : ByteArray) (rt : Option FieldType) (fr lo : Nat) (P : List (Nat × am_I)) (i pc : Nat) (q : am_I) : Bool := am_de cc pc (.ldc 111) 2 && am_nx P i pc 2 && (am_rn on) == "PassScreener$SkyReader"
def am_c_invv (G : Nat → am_M) (on : Nat) (mn : String) (cc : ByteArray) (rt : Option FieldType) (fr lo : Nat) (P : List (Nat × am_I)) (i pc : Nat) (q : am_I) : Bool := am_de cc pc (.invokevirtual q.2.2.2.1.toNat) 3 && am_nx P i pc 3 && am_mv (G q.2.1) on q.2.2.2.1.toNat q.2.1 q.2.2.1 fr lo q.2.2.2.2 && (match q.2.2.2.2[1]? with
    | some ci => decide (ci < 13) && decide (ci = (G q.2.1).2.2.2.2.2.2.2.2.2.1)
    | none => false)
def am_c_invs (G : Nat → am_M) (on : Nat) (mn : String) (cc : ByteArray) (rt : Option FieldType) (fr lo : Nat) (P : List (Nat × am_I)) (i pc : Nat) (q : am_I) : Bool := am_de cc pc (.invokestatic q.2.2.2.1.toNat) 3 && am_nx P i pc 3 && am_ms (G q.2.1) on q.2.2.2.1.toNat q.2.1 q.2.2.1 fr lo q.2.2.2.2
def am_c_invi (G : Nat → am_M) (on : Nat) (mn : String) (cc : ByteArray) (rt : Option FieldType) (fr lo : Nat) (P : List (Nat × am_I)) (i pc : Nat) (q : am_I) : Bool := am_de cc pc (.invokespecial q.2.2.2.1.toNat) 3 && am_nx P i pc 3 && am_mi (G q.2.1) on q.2.2.2.1.toNat q.2.1 q.2.2.1 fr lo q.2.2.2.2
def am_c_invn (G : Nat → am_M) (on : Nat) (mn : String) (cc : ByteArray) (rt : Option FieldType) (fr lo : Nat) (P : List (Nat × am_I)) (i pc : Nat) (q : am_I) : Bool := am_de cc pc (.invokespecial q.2.2.2.1.toNat) 3 && am_nx P i pc 3 && am_mn (G q.2.1) on q.2.2.2.1.toNat q.2.2.1 fr lo
def am_c_invt (G : Nat → am_M) (on : Nat) (mn : String) (cc : ByteArray) (rt : Option FieldType) (fr lo : Nat) (P : List (Nat × am_I)) (i pc : Nat) (q : am_I) : Bool := am_de cc pc (.invokevirtual q.2.2.2.1.toNat) 3 && am_nx P i pc 3 && am_mv (G q.2.1) on q.2.2.2.1.toNat q.2.1 q.2.2.1 fr lo q.2.2.2.2 && decide ((G q.2.1).2.2.2.2.2.2.2.2.2.1 = 17)
def am_c_oini (G : Nat → am_M) (on : Nat) (mn : String) (cc : ByteArray) (rt : Option FieldType) (fr lo : Nat) (P : List (Nat × am_I)) (i pc : Nat) (q : am_I) : Bool := am_de cc pc (.invokespecial q.2.2.2.1.toNat) 3 && am_nx P i pc 3 && am_has q.2.2.2.2 0 (.methodLink (am_rn on) q.2.2.2.1.toNat objectInit) && am_has q.2.2.2.2 1 (.instanceMethod objectInit) && am_has q.2.2.2.2 2 (.code objectInit ⟨#[0xb1]⟩ 1 none) && decide (1 ≤ fr) && decide (20 ≤ lo)
def am_c_new (G : Nat → am_M) (on : Nat) (mn : String) (cc : ByteArray) (rt : Option FieldType) (fr lo : Nat) (P : List (Nat × am_I)) (i pc : Nat) (q : am_I) : Bool := am_de cc pc (.new q.2.2.2.1.toNat) 3 && am_nx P i pc 3 && decide (q.2.1 < 13) && am_has q.2.2.2.2 0 (.classLink (am_rn on) q.2.2.2.1.toNat (am_rn q.2.1)) && am_has q.2.2.2.2 1 (.instantiable (am_rn q.2.1) (am_nf q.2.1)) && am_has q.2.2.2.2 2 (.initialized (am_rn q.2.1)) && (List.range (am_nf q.2.1)).all (fun k => am_rt (am_ft q.2.1 k) || am_ft q.2.1 k == .int || am_ft q.2.1 k == .boolean)
def am_c_newa (G : Nat → am_M) (on : Nat) (mn : String) (cc : ByteArray) (rt : Option FieldType) (fr lo : Nat) (P : List (Nat × am_I)) (i pc : Nat) (q : am_I) : Bool := am_de cc pc (.newarray (am_at q.2.1)) 2 && am_nx P i pc 2 && decide (20 ≤ q.2.1) && decide (q.2.1 < 23) && am_has q.2.2.2.2 0 (.arrayClass (newarray.typeOf (am_at q.2.1)))
def am_c_anew (G : Nat → am_M) (on : Nat) (mn : String) (cc : ByteArray) (rt : Option FieldType) (fr lo : Nat) (P : List (Nat × am_I)) (i pc : Nat) (q : am_I) : Bool := am_de cc pc (.anewarray q.2.2.2.1.toNat) 3 && am_nx P i pc 3 && am_has q.2.2.2.2 0 (.classLink (am_rn on) q.2.2.2.1.toNat "PassScreener$Body")
def am_c_mnew (G : Nat → am_M) (on : Nat) (mn : String) (cc : ByteArray) (rt : Option FieldType) (fr lo : Nat) (P : List (Nat × am_I)) (i pc : Nat) (q : am_I) : Bool := am_de cc pc (.multianewarray q.2.2.2.1.toNat 2) 4 && am_nx P i pc 4 && am_has q.2.2.2.2 0 (.classLink (am_rn on) q.2.2.2.1.toNat "[[I") && am_has q.2.2.2.2 1 (.arrayClass .int)
def am_c_acpy (G : Nat → am_M) (on : Nat) (mn : String) (cc : ByteArray) (rt : Option FieldType) (fr lo : Nat) (P : List (Nat × am_I)) (i pc : Nat) (q : am_I) : Bool := am_de cc pc (.invokestatic q.2.2.2.1.toNat) 3 && am_nx P i pc 3 && am_has q.2.2.2.2 0 (.methodLink (am_rn on) q.2.2.2.1.toNat arraycopyName) && am_has q.2.2.2.2 1 (.native arraycopyName) && am_has q.2.2.2.2 2 (.static arraycopyName) && am_has q.2.2.2.2 3 (.initialized "java/lang/System") && decide (1 ≤ fr) && decide (8 + (nativeFrameWords "java/lang/System" "arraycopy" 5 + 11) ≤ lo)
def am_c_iret (G : Nat → am_M) (on : Nat) (mn : String) (cc : ByteArray) (rt : Option FieldType) (fr lo : Nat) (P : List (Nat × am_I)) (i pc : Nat) (q : am_I) : Bool := am_de cc pc (.ireturn) 1 && rt == some (am_nt q.2.2.1)
def am_c_lret (G : Nat → am_M) (on : Nat) (mn : String) (cc : ByteArray) (rt : Option FieldType) (fr lo : Nat) (P : List (Nat × am_I)) (i pc : Nat) (q : am_I) : Bool := am_de cc pc (.lreturn) 1 && rt == some .long
def am_c_aret (G : Nat → am_M) (on : Nat) (mn : String) (cc : ByteArray) (rt : Option FieldType) (fr lo : Nat) (P : List (Nat × am_I)) (i pc : Nat) (q : am_I) : Bool := am_de cc pc (.areturn) 1 && rt == some (.object "PassScreener$Body")
def am_c_vret (G : Nat → am_M) (on : Nat) (mn : String) (cc : ByteArray) (rt : Option FieldType) (fr lo : Nat) (P : List (Nat × am_I)) (i pc : Nat) (q : am_I) : Bool := am_de cc pc (.return_) 1 && rt == none
def am_ck (G : Nat → am_M) (on : Nat) (mn : String) (cc : ByteArray) (rt : Option FieldType) (fr lo : Nat) (P : List (Nat × am_I)) (i pc : Nat) (q : am_I) : Bool :=
  if q.1 = 0 then am_c_iconst G on mn cc rt fr lo P i pc q else
  if q.1 = 1 then am_c_bipush G on mn cc rt fr lo P i pc q else
  if q.1 = 2 then am_c_sipush G on mn cc rt fr lo P i pc q else
  if q.1 = 3 then am_c_ldc G on mn cc rt fr lo P i pc q else
  if q.1 = 4 then am_c_ldcw G on mn cc rt fr lo P i pc q else
  if q.1 = 5 then am_c_iload G on mn cc rt fr lo P i pc q else
  if q.1 = 6 then am_c_aload G on mn cc rt fr lo P i pc q else
  if q.1 = 7 then am_c_lload G on mn cc rt fr lo P i pc q else
  if q.1 = 8 then am_c_istore G on mn cc rt fr lo P i pc q else
  if q.1 = 9 then am_c_astore G on mn cc rt fr lo P i pc q else
  if q.1 = 10 then am_c_lstore G on mn cc rt fr lo P i pc q else
  if q.1 = 11 then am_c_iinc G on mn cc rt fr lo P i pc q else
  if q.1 = 12 then am_c_iadd G on mn cc rt fr lo P i pc q else
  if q.1 = 13 then am_c_isub G on mn cc rt fr lo P i pc q else
  if q.1 = 14 then am_c_imul G on mn cc rt fr lo P i pc q else
  if q.1 = 15 then am_c_iand G on mn cc rt fr lo P i pc q else
  if q.1 = 16 then am_c_ior G on mn cc rt fr lo P i pc q else
  if q.1 = 17 then am_c_ixor G on mn cc rt fr lo P i pc q else
  if q.1 = 18 then am_c_ishl G on mn cc rt fr lo P i pc q else
  if q.1 = 19 then am_c_ishr G on mn cc rt fr lo P i pc q else
  if q.1 = 20 then am_c_iushr G on mn cc rt fr lo P i pc q else
  if q.1 = 21 then am_c_ineg G on mn cc rt fr lo P i pc q else
  if q.1 = 22 then am_c_idiv G on mn cc rt fr lo P i pc q else
  if q.1 = 23 then am_c_irem G on mn cc rt fr lo P i pc q else
  if q.1 = 24 then am_c_ladd G on mn cc rt fr lo P i pc q else
  if q.1 = 25 then am_c_lsub G on mn cc rt fr lo P i pc q else
  if q.1 = 26 then am_c_lmul G on mn cc rt fr lo P i pc q else
  if q.1 = 27 then am_c_land G on mn cc rt fr lo P i pc q else
  if q.1 = 28 then am_c_lor G on mn cc rt fr lo P i pc q else
  if q.1 = 29 then am_c_lshl G on mn cc rt fr lo P i pc q else
  if q.1 = 30 then am_c_lushr G on mn cc rt fr lo P i pc q else
  if q.1 = 31 then am_c_lrem G on mn cc rt fr lo P i pc q else
  if q.1 = 32 then am_c_i2l G on mn cc rt fr lo P i pc q else
  if q.1 = 33 then am_c_l2i G on mn cc rt fr lo P i pc q else
  if q.1 = 34 then am_c_i2c G on mn cc rt fr lo P i pc q else
  if q.1 = 35 then am_c_lconst G on mn cc rt fr lo P i pc q else
  if q.1 = 36 then am_c_ldc2 G on mn cc rt fr lo P i pc q else
  if q.1 = 37 then am_c_dup G on mn cc rt fr lo P i pc q else
  if q.1 = 38 then am_c_pop G on mn cc rt fr lo P i pc q else
  if q.1 = 39 then am_c_dup2 G on mn cc rt fr lo P i pc q else
  if q.1 = 40 then am_c_ifc G on mn cc rt fr lo P i pc q else
  if q.1 = 41 then am_c_icmp G on mn cc rt fr lo P i pc q else
  if q.1 = 42 then am_c_goto G on mn cc rt fr lo P i pc q else
  if q.1 = 43 then am_c_tsw G on mn cc rt fr lo P i pc q else
  if q.1 = 44 then am_c_getf G on mn cc rt fr lo P i pc q else
  if q.1 = 45 then am_c_putf G on mn cc rt fr lo P i pc q else
  if q.1 = 46 then am_c_putr G on mn cc rt fr lo P i pc q else
  if q.1 = 47 then am_c_iald G on mn cc rt fr lo P i pc q else
  if q.1 = 48 then am_c_iast G on mn cc rt fr lo P i pc q else
  if q.1 = 49 then am_c_zald G on mn cc rt fr lo P i pc q else
  if q.1 = 50 then am_c_zast G on mn cc rt fr lo P i pc q else
  if q.1 = 51 then am_c_lald G on mn cc rt fr lo P i pc q else
  if q.1 = 52 then am_c_last G on mn cc rt fr lo P i pc q else
  if q.1 = 53 then am_c_aald G on mn cc rt fr lo P i pc q else
  if q.1 = 54 then am_c_aast G on mn cc rt fr lo P i pc q else
  if q.1 = 55 then am_c_alen G on mn cc rt fr lo P i pc q else
  if q.1 = 56 then am_c_gets G on mn cc rt fr lo P i pc q else
  if q.1 = 57 then am_c_gets_of_text G on mn cc rt fr lo P i pc q else
  if q.1 = 58 then am_c_ldcs G on mn cc rt fr lo P i pc q else
  if q.1 = 60 then am_c_invv G on mn cc rt fr lo P i pc q else
  if q.1 = 61 then am_c_invs G on mn cc rt fr lo P i pc q else
  if q.1 = 62 then am_c_invi G on mn cc rt fr lo P i pc q else
  if q.1 = 63 then am_c_invn G on mn cc rt fr lo P i pc q else
  if q.1 = 64 then am_c_invt G on mn cc rt fr lo P i pc q else
  if q.1 = 65 then am_c_oini G on mn cc rt fr lo P i pc q else
  if q.1 = 66 then am_c_new G on mn cc rt fr lo P i pc q else
  if q.1 = 67 then am_c_newa G on mn cc rt fr lo P i pc q else
  if q.1 = 68 then am_c_anew G on mn cc rt fr lo P i pc q else
  if q.1 = 69 then am_c_mnew G on mn cc rt fr lo P i pc q else
  if q.1 = 70 then am_c_acpy G on mn cc rt fr lo P i pc q else
  if q.1 = 71 then am_c_iret G on mn cc rt fr lo P i pc q else
  if q.1 = 72 then am_c_lret G on mn cc rt fr lo P i pc q else
  if q.1 = 73 then am_c_aret G on mn cc rt fr lo P i pc q else
  if q.1 = 74 then am_c_vret G on mn cc rt fr lo P i pc q else
  true
/-! a run: n steps at most, a call is one step of its caller -/
def am_ini (g : am_M) (vs : List Value) : List Value := let l := vs.flatMap (fun v => if v.category = 2 then [v, .null] else [v]); l ++ List.replicate (g.2.2.1 - l.length) .null
def am_run (G : Nat → am_M) (X : am_X) : Nat → List (Nat × am_I) → Nat → List Value → List Value → am_S → Option (Option Value × am_S)
  | 0, _, _, _, _, _ => none
  | n + 1, P, i, ls, st, S => match P[i]? with
    | none => none
    | some r => match am_step X r.2 i ls st S with
      | none => none
      | some (.inl (j, ls', st', S')) => am_run G X n P j ls' st' S'
      | some (.inr (.inl r)) => some r
      | some (.inr (.inr (m, vs, st'))) => if (am_ini (G m) vs).length = (G m).2.2.1 then match am_run G X n (G m).2.2.2.2.1 0 (am_ini (G m) vs) [] S with
        | none => none
        | some (v, S') => am_run G X n P (i + 1) ls (v.toList ++ st') S' else none

