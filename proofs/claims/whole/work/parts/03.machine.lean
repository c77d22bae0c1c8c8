/-! THE ABSTRACT MACHINE. Its heap: cells 0, 1, 2 .. by number; cell k lies at the address b0 + k. A cell has a kind and a length, its contents are ints, longs or numbers of cells.
   Kinds: 0 .. 12 an object of that class of vwCl; 20 int[], 21 boolean[], 22 long[], 23 Body[], 24 int[][]. Values are the machine's own; '.ref k' is cell k, '.retAddr t' an old cell (0 ORDER, 1 the text WORDS, 2 the script, 3 the bytes of WORDS, 9 something never looked at), '.null' stands for 'not known'. -/
abbrev am_I : Type := Nat × Nat × Nat × Int × List Nat
abbrev am_S : Type := (Nat × Nat) × (Nat → Nat × Nat) × (Nat → Nat → Int32) × (Nat → Nat → Int64) × (Nat → Nat → Option Nat)
abbrev am_X : Type := Nat → Nat × (Nat → Int32)
abbrev am_R : Type := (Nat × List Value × List Value × am_S) ⊕ ((Option Value × am_S) ⊕ (Nat × List Value × List Value))
/-- a method: name, bytes, locals, answer, its instructions, frames and locals' words that its calls want -/
abbrev am_M : Type := MethodName × ByteArray × Nat × Option FieldType × List (Nat × am_I) × Nat × Nat
def am_up {α : Type} (f : Nat → Nat → α) (c k : Nat) (v : α) : Nat → Nat → α := fun a b => if a = c then (if b = k then v else f a b) else f a b
def am_cl {α : Type} (f : Nat → Nat → α) (c : Nat) (v : α) : Nat → Nat → α := fun a b => if a = c then v else f a b
def am_setI (S : am_S) (c k : Nat) (v : Int32) : am_S := (S.1, S.2.1, am_up S.2.2.1 c k v, S.2.2.2)
def am_setJ (S : am_S) (c k : Nat) (v : Int64) : am_S := (S.1, S.2.1, S.2.2.1, am_up S.2.2.2.1 c k v, S.2.2.2.2)
def am_setR (S : am_S) (c k v : Nat) : am_S := (S.1, S.2.1, S.2.2.1, S.2.2.2.1, am_up S.2.2.2.2 c k (some v))
def am_mk (S : am_S) (t n : Nat) : am_S := ((S.1.1 + 1, S.1.2 + n), (fun a => if a = S.1.1 then (t, n) else S.2.1 a), am_cl S.2.2.1 S.1.1 0, am_cl S.2.2.2.1 S.1.1 0, am_cl S.2.2.2.2 S.1.1 none)
/-- new int[n][k] -/
def am_mm (S : am_S) (n k : Nat) : am_S := ((S.1.1 + 1 + n, S.1.2 + n + n * k), (fun a => if a = S.1.1 then (24, n) else if S.1.1 < a ∧ a ≤ S.1.1 + n then (20, k) else S.2.1 a), (fun a b => if S.1.1 ≤ a ∧ a ≤ S.1.1 + n then 0 else S.2.2.1 a b), (fun a b => if S.1.1 ≤ a ∧ a ≤ S.1.1 + n then 0 else S.2.2.2.1 a b), (fun a b => if a = S.1.1 then (if b < n then some (S.1.1 + 1 + b) else none) else if S.1.1 < a ∧ a ≤ S.1.1 + n then none else S.2.2.2.2 a b))
def am_cp (S : am_S) (a b sp dp n : Nat) : am_S := (S.1, S.2.1, (fun c k => if c = b then (if dp ≤ k ∧ k < dp + n then S.2.2.1 a (sp + (k - dp)) else S.2.2.1 c k) else S.2.2.1 c k), S.2.2.2)
def am_st (ls : List Value) (i : Nat) (v : Value) : List Value := (match i with
  | 0 => ls
  | j + 1 => match ls[j]? with
    | some w => if w.category = 2 then ls.set j .null else ls
    | none => ls).set i v
def am_st2 (ls : List Value) (i : Nat) (v : Value) : List Value := (am_st ls i v).set (i + 1) .null
def am_go (j : Nat) (ls st : List Value) (S : am_S) : Option am_R := some (.inl (j, ls, st, S))
/-! words of the tables, by their places -/
def am_tbl (k : Nat) : List Cond := match k with
  | 0 => k2_sels lw_privs
  | 1 => tables_1_1
  | 2 => tables_1_2
  | 3 => tables_1_3
  | 4 => tables_1_4
  | 5 => tables_1_5
  | 6 => tables_1_6
  | 7 => tables_1_7
  | 8 => tables_1_8
  | 9 => tables_1_9
  | _ => []
def am_tb (p : Nat) : Option Cond := (am_tbl (p / 1000))[p % 1000]?
def am_has (ts : List Nat) (j : Nat) (w : Cond) : Bool := (match ts[j]? with
  | some p => decide (am_tb p = some w)
  | none => false) && goodWord w
/-! fields: class number and field number -/
def am_rn (ci : Nat) : String := match ci with
  | 0 => RX0
  | 1 => RX1
  | 2 => RX2
  | 3 => RX3
  | 4 => RX4
  | 5 => RX5
  | 6 => RX6
  | 7 => RX7
  | 8 => RX8
  | 9 => RX9
  | 10 => RX10
  | 11 => RX11
  | _ => RX12
def am_nf (ci : Nat) : Nat := match ci with
  | 0 => 8
  | 1 => 10
  | 2 => 7
  | 3 => 6
  | 4 => 3
  | 5 => 4
  | 6 => 8
  | 7 => 9
  | 8 => 11
  | 9 => 2
  | 10 => 12
  | 11 => 13
  | _ => 44
def am_fd (ci k : Nat) : String × String × String × Bool := match ci with
  | 0 => TX0 k
  | 1 => TX1 k
  | 2 => TX2 k
  | 3 => TX3 k
  | 4 => TX4 k
  | 5 => TX5 k
  | 6 => TX6 k
  | 7 => TX7 k
  | 8 => TX8 k
  | 9 => TX9 k
  | 10 => TX10 k
  | 11 => TX11 k
  | _ => TX12 k
def am_ft (ci k : Nat) : FieldType := match ci with
  | 0 => tyX0 k
  | 1 => tyX1 k
  | 2 => tyX2 k
  | 3 => tyX3 k
  | 4 => tyX4 k
  | 5 => tyX5 k
  | 6 => tyX6 k
  | 7 => tyX7 k
  | 8 => tyX8 k
  | 9 => tyX9 k
  | 10 => tyX10 k
  | 11 => tyX11 k
  | _ => tyX12 k
def am_rt (t : FieldType) : Bool := match t with
  | .object _ => true
  | .array _ => true
  | _ => false
/-- a field as a value; a reference that isn't set yet is not known -/
def am_fv (S : am_S) (a ci k : Nat) : Value := if am_rt (am_ft ci k) = true then (match S.2.2.2.2 a k with
  | some v => .ref v
  | none => .null) else .int (S.2.2.1 a k)
def am_nt (b : Nat) : FieldType := match b with
  | 0 => .int
  | 1 => .boolean
  | 2 => .byte
  | _ => .char
def am_at (a : Nat) : ArrayType := match a with
  | 20 => .int
  | 21 => .boolean
  | _ => .long
/-- the statics that are read -/
def am_sn (b : Nat) : String × String × String := match b with
  | 0 => ("PassScreener$Picture", "ORDER", "[I")
  | 1 => ("java/lang/String", "COMPACT_STRINGS", "Z")
  | _ => ("jdk/internal/util/Preconditions", "SIOOBE_FORMATTER", "Ljava/util/function/BiFunction;")
def am_cd (b : Nat) : ClassFile.Cond := match b with
  | 0 => .eq
  | 1 => .ne
  | 2 => .lt
  | 3 => .ge
  | 4 => .gt
  | _ => .le
def am_cmp (b : Nat) (x y : Int32) : Bool := match b with
  | 0 => decide (x = y)
  | 1 => decide (¬ x = y)
  | 2 => decide (x < y)
  | 3 => decide (y ≤ x)
  | 4 => decide (y < x)
  | _ => decide (x ≤ y)
/-! rows of instructions: the next one's place, a branch's target -/
def am_nx (P : List (Nat × am_I)) (i pc len : Nat) : Bool := match P[i + 1]? with
  | some r => r.1 == pc + len
  | none => false
def am_tg (P : List (Nat × am_I)) (pc t : Nat) (off : Int) : Bool := match P[t]? with
  | some r => decide ((pc : Int) + off = (r.1 : Int))
  | none => false
def am_of (P : List (Nat × am_I)) (pc t : Nat) : Int := match P[t]? with
  | some r => (r.1 : Int) - (pc : Int)
  | none => 0
def am_fl (own : String) (index ci k : Nat) (ts : List Nat) : Bool := decide (ci < 13) && decide (k < am_nf ci) && am_has ts 0 (.fieldLink own index (am_fd ci k).1 (am_fd ci k).2.1 (am_fd ci k).2.2.1)
/-! calls: what is asked of a callee g; fr, lo: the caller's frames and locals' words -/
def am_gc (g : am_M) (n fr lo : Nat) (ts : List Nat) : Bool := decide (g.1.cls ≠ "java/lang/invoke/MethodHandle" ∧ g.1.cls ≠ "java/lang/invoke/VarHandle") && decide ((parseMethodDescriptor g.1.desc).map (fun d => d.parameters.length) = some n) && decide (g.2.2.2.2.2.1 + 1 ≤ fr) && decide (8 + (g.2.2.1 + 11) + g.2.2.2.2.2.2 ≤ lo) && am_has ts 1 (.initialized g.1.cls) && am_has ts 2 (.code g.1 g.2.1 g.2.2.1 g.2.2.2.1) && plainName g.1.cls
def am_mv (g : am_M) (own : String) (index b fr lo : Nat) (ts : List Nat) : Bool := decide (0 < b) && am_gc g (b - 1) fr lo ts && am_has ts 0 (.methodLink own index g.1) && am_has ts 3 (.instanceMethod g.1) && am_has ts 4 (.selects g.1.cls g.1 g.1)
def am_ms (g : am_M) (own : String) (index b fr lo : Nat) (ts : List Nat) : Bool := am_gc g b fr lo ts && am_has ts 0 (.methodLink own index g.1) && am_has ts 3 (.static g.1)
def am_mi (g : am_M) (own : String) (index b fr lo : Nat) (ts : List Nat) : Bool := decide (0 < b) && am_gc g (b - 1) fr lo ts && am_has ts 0 (.methodLink own index g.1) && am_has ts 3 (.instanceMethod g.1) && decide (g.1.name = "<init>") && decide (g.2.2.2.1 = none)
def am_nl : List (String × Nat × MethodName × String) := [("PassScreener$Sky", 21, yX2_init, "PassScreener"), ("PassScreener$Trials", 13, yX2_init, "PassScreener"), ("PassScreener", 9, yX9_init, "PassScreener"), ("PassScreener", 77, yX6_init, "PassScreener"), ("PassScreener", 84, yX4_init, "PassScreener")]
def am_mn (g : am_M) (own : String) (index b fr lo : Nat) (ts : List Nat) : Bool := decide (0 < b) && am_gc g (b - 1) fr lo ts && decide ((own, index, g.1, "PassScreener") ∈ am_nl) && am_has ts 3 (.instanceMethod g.1) && decide (g.1.name = "<init>") && decide (g.2.2.2.1 = none)

def am_x_iconst (X : am_X) (q : am_I) (i : Nat) (ls st : List Value) (S : am_S) : Option am_R := am_go (i + 1) ls (.int (Int32.ofInt q.2.2.2.1) :: st) S
def am_x_bipush (X : am_X) (q : am_I) (i : Nat) (ls st : List Value) (S : am_S) : Option am_R := am_go (i + 1) ls (.int (Int32.ofInt q.2.2.2.1) :: st) S
def am_x_sipush (X : am_X) (q : am_I) (i : Nat) (ls st : List Value) (S : am_S) : Option am_R := am_go (i + 1) ls (.int (Int32.ofInt q.2.2.2.1) :: st) S
def am_x_ldc (X : am_X) (q : am_I) (i : Nat) (ls st : List Value) (S : am_S) : Option am_R := am_go (i + 1) ls (.int (Int32.ofInt q.2.2.2.1) :: st) S
def am_x_ldcw (X : am_X) (q : am_I) (i : Nat) (ls st : List Value) (S : am_S) : Option am_R := am_go (i + 1) ls (.int (Int32.ofInt q.2.2.2.1) :: st) S
def am_x_iload (X : am_X) (q : am_I) (i : Nat) (ls st : List Value) (S : am_S) : Option am_R := match ls[q.2.1]? with
    | some (.int x) => am_go (i + 1) ls (.int x :: st) S
    | _ => none
def am_x_aload (X : am_X) (q : am_I) (i : Nat) (ls st : List Value) (S : am_S) : Option am_R := match ls[q.2.1]? with
    | some (.ref x) => am_go (i + 1) ls (.ref x :: st) S
    | some (.retAddr x) => am_go (i + 1) ls (.retAddr x :: st) S
    | _ => none
def am_x_lload (X : am_X) (q : am_I) (i : Nat) (ls st : List Value) (S : am_S) : Option am_R := match ls[q.2.1]? with
    | some (.long x) => am_go (i + 1) ls (.long x :: st) S
    | _ => none
def am_x_istore (X : am_X) (q : am_I) (i : Nat) (ls st : List Value) (S : am_S) : Option am_R := match st with
    | .int x :: r => if q.2.1 < ls.length then am_go (i + 1) (am_st ls q.2.1 (.int x)) r S else none
    | _ => none
def am_x_astore (X : am_X) (q : am_I) (i : Nat) (ls st : List Value) (S : am_S) : Option am_R := match st with
    | .ref x :: r => if q.2.1 < ls.length then am_go (i + 1) (am_st ls q.2.1 (.ref x)) r S else none
    | .retAddr x :: r => if q.2.1 < ls.length then am_go (i + 1) (am_st ls q.2.1 (.retAddr x)) r S else none
    | _ => none
def am_x_lstore (X : am_X) (q : am_I) (i : Nat) (ls st : List Value) (S : am_S) : Option am_R := match st with
    | .long x :: r => if q.2.1 + 1 < ls.length then am_go (i + 1) (am_st2 ls q.2.1 (.long x)) r S else none
    | _ => none
def am_x_iinc (X : am_X) (q : am_I) (i : Nat) (ls st : List Value) (S : am_S) : Option am_R := match ls[q.2.1]? with
    | some (.int x) => am_go (i + 1) (am_st ls q.2.1 (.int (x + Int32.ofInt q.2.2.2.1))) st S
    | _ => none
def am_x_iadd (X : am_X) (q : am_I) (i : Nat) (ls st : List Value) (S : am_S) : Option am_R := match st with
    | .int y :: .int x :: r => am_go (i + 1) ls (.int (x + y) :: r) S
    | _ => none
def am_x_isub (X : am_X) (q : am_I) (i : Nat) (ls st : List Value) (S : am_S) : Option am_R := match st with
    | .int y :: .int x :: r => am_go (i + 1) ls (.int (x - y) :: r) S
    | _ => none
def am_x_imul (X : am_X) (q : am_I) (i : Nat) (ls st : List Value) (S : am_S) : Option am_R := match st with
    | .int y :: .int x :: r => am_go (i + 1) ls (.int (x * y) :: r) S
    | _ => none
def am_x_iand (X : am_X) (q : am_I) (i : Nat) (ls st : List Value) (S : am_S) : Option am_R := match st with
    | .int y :: .int x :: r => am_go (i + 1) ls (.int (x &&& y) :: r) S
    | _ => none
def am_x_ior (X : am_X) (q : am_I) (i : Nat) (ls st : List Value) (S : am_S) : Option am_R := match st with
    | .int y :: .int x :: r => am_go (i + 1) ls (.int (x ||| y) :: r) S
    | _ => none
def am_x_ixor (X : am_X) (q : am_I) (i : Nat) (ls st : List Value) (S : am_S) : Option am_R := match st with
    | .int y :: .int x :: r => am_go (i + 1) ls (.int (x ^^^ y) :: r) S
    | _ => none
def am_x_ishl (X : am_X) (q : am_I) (i : Nat) (ls st : List Value) (S : am_S) : Option am_R := match st with
    | .int y :: .int x :: r => am_go (i + 1) ls (.int (x <<< (y &&& 31)) :: r) S
    | _ => none
def am_x_ishr (X : am_X) (q : am_I) (i : Nat) (ls st : List Value) (S : am_S) : Option am_R := match st with
    | .int y :: .int x :: r => am_go (i + 1) ls (.int (x >>> (y &&& 31)) :: r) S
    | _ => none
def am_x_iushr (X : am_X) (q : am_I) (i : Nat) (ls st : List Value) (S : am_S) : Option am_R := match st with
    | .int y :: .int x :: r => am_go (i + 1) ls (.int ((x.toUInt32 >>> (y.toUInt32 &&& Int32.toUInt32 31)).toInt32) :: r) S
    | _ => none
def am_x_ineg (X : am_X) (q : am_I) (i : Nat) (ls st : List Value) (S : am_S) : Option am_R := match st with
    | .int x :: r => am_go (i + 1) ls (.int (-x) :: r) S
    | _ => none
def am_x_idiv (X : am_X) (q : am_I) (i : Nat) (ls st : List Value) (S : am_S) : Option am_R := match st with
    | .int y :: .int x :: r => if y = 0 then none else am_go (i + 1) ls (.int (x / y) :: r) S
    | _ => none
def am_x_irem (X : am_X) (q : am_I) (i : Nat) (ls st : List Value) (S : am_S) : Option am_R := match st with
    | .int y :: .int x :: r => if y = 0 then none else am_go (i + 1) ls (.int (x - x / y * y) :: r) S
    | _ => none
def am_x_ladd (X : am_X) (q : am_I) (i : Nat) (ls st : List Value) (S : am_S) : Option am_R := match st with
    | .long y :: .long x :: r => am_go (i + 1) ls (.long (x + y) :: r) S
    | _ => none
def am_x_lsub (X : am_X) (q : am_I) (i : Nat) (ls st : List Value) (S : am_S) : Option am_R := match st with
    | .long y :: .long x :: r => am_go (i + 1) ls (.long (x - y) :: r) S
    | _ => none
def am_x_lmul (X : am_X) (q : am_I) (i : Nat) (ls st : List Value) (S : am_S) : Option am_R := match st with
    | .long y :: .long x :: r => am_go (i + 1) ls (.long (x * y) :: r) S
    | _ => none
def am_x_land (X : am_X) (q : am_I) (i : Nat) (ls st : List Value) (S : am_S) : Option am_R := match st with
    | .long y :: .long x :: r => am_go (i + 1) ls (.long (x &&& y) :: r) S
    | _ => none
def am_x_lor (X : am_X) (q : am_I) (i : Nat) (ls st : List Value) (S : am_S) : Option am_R := match st with
    | .long y :: .long x :: r => am_go (i + 1) ls (.long (x ||| y) :: r) S
    | _ => none
def am_x_lshl (X : am_X) (q : am_I) (i : Nat) (ls st : List Value) (S : am_S) : Option am_R := match st with
    | .int y :: .long x :: r => am_go (i + 1) ls (.long (x <<< (y.toInt64 &&& 63)) :: r) S
    | _ => none
def am_x_lushr (X : am_X) (q : am_I) (i : Nat) (ls st : List Value) (S : am_S) : Option am_R := match st with
    | .int y :: .long x :: r => am_go (i + 1) ls (.long ((x.toUInt64 >>> (y.toInt64.toUInt64 &&& Int64.toUInt64 63)).toInt64) :: r) S
    | _ => none
def am_x_lrem (X : am_X) (q : am_I) (i : Nat) (ls st : List Value) (S : am_S) : Option am_R := match st with
    | .long y :: .long x :: r => if y = 0 then none else am_go (i + 1) ls (.long (x - x / y * y) :: r) S
    | _ => none
def am_x_i2l (X : am_X) (q : am_I) (i : Nat) (ls st : List Value) (S : am_S) : Option am_R := match st with
    | .int x :: r => am_go (i + 1) ls (.long x.toInt64 :: r) S
    | _ => none
def am_x_l2i (X : am_X) (q : am_I) (i : Nat) (ls st : List Value) (S : am_S) : Option am_R := match st with
    | .long x :: r => am_go (i + 1) ls (.int x.toInt32 :: r) S
    | _ => none
def am_x_i2c (X : am_X) (q : am_I) (i : Nat) (ls st : List Value) (S : am_S) : Option am_R := match st with
    | .int x :: r => am_go (i + 1) ls (.int ((x.toUInt32 % 65536).toInt32) :: r) S
    | _ => none
def am_x_lconst (X : am_X) (q : am_I) (i : Nat) (ls st : List Value) (S : am_S) : Option am_R := am_go (i + 1) ls (.long (Int64.ofNat q.2.1) :: st) S
def am_x_ldc2 (X : am_X) (q : am_I) (i : Nat) (ls st : List Value) (S : am_S) : Option am_R := am_go (i + 1) ls (.long (Int64.ofInt q.2.2.2.1) :: st) S
def am_x_dup (X : am_X) (q : am_I) (i : Nat) (ls st : List Value) (S : am_S) : Option am_R := match st with
    | x :: r => if x.category = 1 then am_go (i + 1) ls (x :: x :: r) S else none
    | _ => none
def am_x_pop (X : am_X) (q : am_I) (i : Nat) (ls st : List Value) (S : am_S) : Option am_R := match st with
    | x :: r => if x.category = 1 then am_go (i + 1) ls r S else none
    | _ => none
def am_x_dup2 (X : am_X) (q : am_I) (i : Nat) (ls st : List Value) (S : am_S) : Option am_R := match st with
    | x :: y :: r => if x.category = 1 ∧ y.category = 1 then am_go (i + 1) ls (x :: y :: x :: y :: r) S else none
    | _ => none
def am_x_ifc (X : am_X) (q : am_I) (i : Nat) (ls st : List Value) (S : am_S) : Option am_R := match st with
    | .int x :: r => if am_cmp q.2.2.1 x 0 then am_go q.2.1 ls r S else am_go (i + 1) ls r S
    | _ => none
def am_x_icmp (X : am_X) (q : am_I) (i : Nat) (ls st : List Value) (S : am_S) : Option am_R := match st with
    | .int y :: .int x :: r => if am_cmp q.2.2.1 x y then am_go q.2.1 ls r S else am_go (i + 1) ls r S
    | _ => none
def am_x_goto (X : am_X) (q : am_I) (i : Nat) (ls st : List Value) (S : am_S) : Option am_R := am_go q.2.1 ls st S
def am_x_tsw (X : am_X) (q : am_I) (i : Nat) (ls st : List Value) (S : am_S) : Option am_R := match st with
    | .int x :: r => if x.toInt < q.2.2.2.1 ∨ q.2.2.2.1 + (q.2.2.2.2.length : Int) ≤ x.toInt then am_go q.2.1 ls r S else match q.2.2.2.2[(x.toInt - q.2.2.2.1).toNat]? with
      | some t => am_go t ls r S
      | none => none
    | _ => none
def am_x_getf (X : am_X) (q : am_I) (i : Nat) (ls st : List Value) (S : am_S) : Option am_R := match st with
    | .ref a :: r => if a < S.1.1 ∧ (S.2.1 a).1 = q.2.1 ∧ q.2.2.1 < (S.2.1 a).2 then (if am_fv S a q.2.1 q.2.2.1 = .null then none else am_go (i + 1) ls (am_fv S a q.2.1 q.2.2.1 :: r) S) else none
    | _ => none
def am_x_putf (X : am_X) (q : am_I) (i : Nat) (ls st : List Value) (S : am_S) : Option am_R := match st with
    | .int x :: .ref a :: r => if a < S.1.1 ∧ (S.2.1 a).1 = q.2.1 ∧ q.2.2.1 < (S.2.1 a).2 ∧ narrow (am_ft q.2.1 q.2.2.1) (.int x) = .int x ∧ fits (am_ft q.2.1 q.2.2.1) (.int x) = true then am_go (i + 1) ls r (am_setI S a q.2.2.1 x) else none
    | _ => none
def am_x_putr (X : am_X) (q : am_I) (i : Nat) (ls st : List Value) (S : am_S) : Option am_R := match st with
    | .ref x :: .ref a :: r => if a < S.1.1 ∧ (S.2.1 a).1 = q.2.1 ∧ q.2.2.1 < (S.2.1 a).2 then am_go (i + 1) ls r (am_setR S a q.2.2.1 x) else none
    | _ => none
def am_x_iald (X : am_X) (q : am_I) (i : Nat) (ls st : List Value) (S : am_S) : Option am_R := match st with
    | .int j :: .ref a :: r => if a < S.1.1 ∧ (S.2.1 a).1 = 20 ∧ ¬ (j < 0 ∨ (S.2.1 a).2 ≤ j.toNatClampNeg) then am_go (i + 1) ls (.int (S.2.2.1 a j.toNatClampNeg) :: r) S else none
    | .int j :: .retAddr t :: r => if (t = 0 ∨ t = 2) ∧ ¬ (j < 0 ∨ (X t).1 ≤ j.toNatClampNeg) then am_go (i + 1) ls (.int ((X t).2 j.toNatClampNeg) :: r) S else none
    | _ => none
def am_x_iast (X : am_X) (q : am_I) (i : Nat) (ls st : List Value) (S : am_S) : Option am_R := match st with
    | .int x :: .int j :: .ref a :: r => if a < S.1.1 ∧ (S.2.1 a).1 = 20 ∧ ¬ (j < 0 ∨ (S.2.1 a).2 ≤ j.toNatClampNeg) then am_go (i + 1) ls r (am_setI S a j.toNatClampNeg x) else none
    | _ => none
def am_x_zald (X : am_X) (q : am_I) (i : Nat) (ls st : List Value) (S : am_S) : Option am_R := match st with
    | .int j :: .ref a :: r => if a < S.1.1 ∧ (S.2.1 a).1 = 21 ∧ ¬ (j < 0 ∨ (S.2.1 a).2 ≤ j.toNatClampNeg) then am_go (i + 1) ls (.int (S.2.2.1 a j.toNatClampNeg) :: r) S else none
    | .int j :: .retAddr t :: r => if t = 3 ∧ ¬ (j < 0 ∨ (X t).1 ≤ j.toNatClampNeg) then am_go (i + 1) ls (.int ((X t).2 j.toNatClampNeg) :: r) S else none
    | _ => none
def am_x_zast (X : am_X) (q : am_I) (i : Nat) (ls st : List Value) (S : am_S) : Option am_R := match st with
    | .int x :: .int j :: .ref a :: r => if a < S.1.1 ∧ (S.2.1 a).1 = 21 ∧ ¬ (j < 0 ∨ (S.2.1 a).2 ≤ j.toNatClampNeg) ∧ vp_nar .boolean x = x then am_go (i + 1) ls r (am_setI S a j.toNatClampNeg x) else none
    | _ => none
def am_x_lald (X : am_X) (q : am_I) (i : Nat) (ls st : List Value) (S : am_S) : Option am_R := match st with
    | .int j :: .ref a :: r => if a < S.1.1 ∧ (S.2.1 a).1 = 22 ∧ ¬ (j < 0 ∨ (S.2.1 a).2 ≤ j.toNatClampNeg) then am_go (i + 1) ls (.long (S.2.2.2.1 a j.toNatClampNeg) :: r) S else none
    | _ => none
def am_x_last (X : am_X) (q : am_I) (i : Nat) (ls st : List Value) (S : am_S) : Option am_R := match st with
    | .long x :: .int j :: .ref a :: r => if a < S.1.1 ∧ (S.2.1 a).1 = 22 ∧ ¬ (j < 0 ∨ (S.2.1 a).2 ≤ j.toNatClampNeg) then am_go (i + 1) ls r (am_setJ S a j.toNatClampNeg x) else none
    | _ => none
def am_x_aald (X : am_X) (q : am_I) (i : Nat) (ls st : List Value) (S : am_S) : Option am_R := match st with
    | .int j :: .ref a :: r => if a < S.1.1 ∧ ((S.2.1 a).1 = 23 ∨ (S.2.1 a).1 = 24) ∧ ¬ (j < 0 ∨ (S.2.1 a).2 ≤ j.toNatClampNeg) then match S.2.2.2.2 a j.toNatClampNeg with
      | some v => am_go (i + 1) ls (.ref v :: r) S
      | none => none else none
    | _ => none
def am_x_aast (X : am_X) (q : am_I) (i : Nat) (ls st : List Value) (S : am_S) : Option am_R := match st with
    | .ref x :: .int j :: .ref a :: r => if a < S.1.1 ∧ (S.2.1 a).1 = 23 ∧ ¬ (j < 0 ∨ (S.2.1 a).2 ≤ j.toNatClampNeg) ∧ x < S.1.1 ∧ (S.2.1 x).1 = 2 then am_go (i + 1) ls r (am_setR S a j.toNatClampNeg x) else none
    | _ => none
def am_x_alen (X : am_X) (q : am_I) (i : Nat) (ls st : List Value) (S : am_S) : Option am_R := match st with
    | .ref a :: r => if a < S.1.1 ∧ 20 ≤ (S.2.1 a).1 ∧ (S.2.1 a).1 < 25 then am_go (i + 1) ls (.int (Int32.ofNat (S.2.1 a).2) :: r) S else none
    | .retAddr t :: r => if t = 0 ∨ t = 2 ∨ t = 3 then am_go (i + 1) ls (.int (Int32.ofNat (X t).1) :: r) S else none
    | _ => none
def am_x_gets (X : am_X) (q : am_I) (i : Nat) (ls st : List Value) (S : am_S) : Option am_R := am_go (i + 1) ls ((if q.2.2.1 = 0 then .retAddr 0 else if q.2.2.1 = 1 then .int 1 else .retAddr 9) :: st) S
def am_x_gets_of_text (X : am_X) (q : am_I) (i : Nat) (ls st : List Value) (S : am_S) : Option am_R := match st with
    | .retAddr t :: r => if t = 1 then am_go (i + 1) ls ((if q.2.2.1 = 0 then .int 0 else .retAddr 3) :: r) S else none
    | _ => none
def am_x_ldcs (X : am_X) (q : am_I) (i : Nat) (ls st : List Value) (S : am_S) : Option am_R := am_go (i + 1) ls (.retAddr 1 :: st) S
def am_x_invv (X : am_X) (q : am_I) (i : Nat) (ls st : List Value) (S : am_S) : Option am_R := match st[q.2.2.1 - 1]? with
    | some (.ref a) => if 0 < q.2.2.1 ∧ a < S.1.1 ∧ q.2.2.2.2[5]? = some (S.2.1 a).1 then if q.2.2.1 ≤ st.length ∧ ((st.drop q.2.2.1).map Value.category).sum ≤ 8 then some (.inr (.inr (q.2.1, (st.take q.2.2.1).reverse, st.drop q.2.2.1))) else none else none
    | _ => none
def am_x_invs (X : am_X) (q : am_I) (i : Nat) (ls st : List Value) (S : am_S) : Option am_R := if q.2.2.1 ≤ st.length ∧ ((st.drop q.2.2.1).map Value.category).sum ≤ 8 then some (.inr (.inr (q.2.1, (st.take q.2.2.1).reverse, st.drop q.2.2.1))) else none
def am_x_invi (X : am_X) (q : am_I) (i : Nat) (ls st : List Value) (S : am_S) : Option am_R := match st[q.2.2.1 - 1]? with
    | some (.ref a) => if 0 < q.2.2.1 then if q.2.2.1 ≤ st.length ∧ ((st.drop q.2.2.1).map Value.category).sum ≤ 8 then some (.inr (.inr (q.2.1, (st.take q.2.2.1).reverse, st.drop q.2.2.1))) else none else none
    | _ => none
def am_x_invn (X : am_X) (q : am_I) (i : Nat) (ls st : List Value) (S : am_S) : Option am_R := match st[q.2.2.1 - 1]? with
    | some (.ref a) => if 0 < q.2.2.1 then if q.2.2.1 ≤ st.length ∧ ((st.drop q.2.2.1).map Value.category).sum ≤ 8 then some (.inr (.inr (q.2.1, (st.take q.2.2.1).reverse, st.drop q.2.2.1))) else none else none
    | _ => none
def am_x_invt (X : am_X) (q : am_I) (i : Nat) (ls st : List Value) (S : am_S) : Option am_R := match st[q.2.2.1 - 1]? with
    | some (.retAddr t) => if 0 < q.2.2.1 ∧ t = 1 then if q.2.2.1 ≤ st.length ∧ ((st.drop q.2.2.1).map Value.category).sum ≤ 8 then some (.inr (.inr (q.2.1, (st.take q.2.2.1).reverse, st.drop q.2.2.1))) else none else none
    | _ => none
def am_x_oini (X : am_X) (q : am_I) (i : Nat) (ls st : List Value) (S : am_S) : Option am_R := match st with
    | .ref a :: r => if (r.map Value.category).sum ≤ 8 then am_go (i + 1) ls r S else none
    | _ => none
def am_x_new (X : am_X) (q : am_I) (i : Nat) (ls st : List Value) (S : am_S) : Option am_R := am_go (i + 1) ls (.ref S.1.1 :: st) (am_mk S q.2.1 (am_nf q.2.1))
def am_x_newa (X : am_X) (q : am_I) (i : Nat) (ls st : List Value) (S : am_S) : Option am_R := match st with
    | .int n :: r => if ¬ n < 0 ∧ n.toNatClampNeg ≤ 10000 then am_go (i + 1) ls (.ref S.1.1 :: r) (am_mk S q.2.1 n.toNatClampNeg) else none
    | _ => none
def am_x_anew (X : am_X) (q : am_I) (i : Nat) (ls st : List Value) (S : am_S) : Option am_R := match st with
    | .int n :: r => if ¬ n < 0 ∧ n.toNatClampNeg ≤ 10000 then am_go (i + 1) ls (.ref S.1.1 :: r) (am_mk S 23 n.toNatClampNeg) else none
    | _ => none
def am_x_mnew (X : am_X) (q : am_I) (i : Nat) (ls st : List Value) (S : am_S) : Option am_R := match st with
    | .int k :: .int n :: r => if ¬ n < 0 ∧ ¬ k < 0 ∧ n.toNatClampNeg ≤ 10000 ∧ k.toNatClampNeg ≤ 10000 then am_go (i + 1) ls (.ref S.1.1 :: r) (am_mm S n.toNatClampNeg k.toNatClampNeg) else none
    | _ => none
def am_x_acpy (X : am_X) (q : am_I) (i : Nat) (ls st : List Value) (S : am_S) : Option am_R := match st with
    | .int n :: .int dp :: .ref b :: .int sp :: .ref a :: r => if a < S.1.1 ∧ b < S.1.1 ∧ (S.2.1 a).1 = 20 ∧ (S.2.1 b).1 = 20 ∧ ¬ sp < 0 ∧ ¬ dp < 0 ∧ ¬ n < 0 ∧ sp.toNatClampNeg + n.toNatClampNeg ≤ (S.2.1 a).2 ∧ dp.toNatClampNeg + n.toNatClampNeg ≤ (S.2.1 b).2 ∧ (r.map Value.category).sum ≤ 8 then am_go (i + 1) ls r (am_cp S a b sp.toNatClampNeg dp.toNatClampNeg n.toNatClampNeg) else none
    | _ => none
def am_x_iret (X : am_X) (q : am_I) (i : Nat) (ls st : List Value) (S : am_S) : Option am_R := match st with
    | [.int x] => if narrow (am_nt q.2.2.1) (.int x) = .int x then some (.inr (.inl (some (.int x), S))) else none
    | _ => none
def am_x_lret (X : am_X) (q : am_I) (i : Nat) (ls st : List Value) (S : am_S) : Option am_R := match st with
    | [.long x] => some (.inr (.inl (some (.long x), S)))
    | _ => none
def am_x_aret (X : am_X) (q : am_I) (i : Nat) (ls st : List Value) (S : am_S) : Option am_R := match st with
    | [.ref x] => some (.inr (.inl (some (.ref x), S)))
    | _ => none
def am_x_vret (X : am_X) (q : am_I) (i : Nat) (ls st : List Value) (S : am_S) : Option am_R := match st with
    | [] => some (.inr (.inl (none, S)))
    | _ => none
def am_step (X : am_X) (q : am_I) (i : Nat) (ls st : List Value) (S : am_S) : Option am_R :=
  if q.1 = 0 then am_x_iconst X q i ls st S else
  if q.1 = 1 then am_x_bipush X q i ls st S else
  if q.1 = 2 then am_x_sipush X q i ls st S else
  if q.1 = 3 then am_x_ldc X q i ls st S else
  if q.1 = 4 then am_x_ldcw X q i ls st S else
  if q.1 = 5 then am_x_iload X q i ls st S else
  if q.1 = 6 then am_x_aload X q i ls st S else
  if q.1 = 7 then am_x_lload X q i ls st S else
  if q.1 = 8 then am_x_istore X q i ls st S else
  if q.1 = 9 then am_x_astore X q i ls st S else
  if q.1 = 10 then am_x_lstore X q i ls st S else
  if q.1 = 11 then am_x_iinc X q i ls st S else
  if q.1 = 12 then am_x_iadd X q i ls st S else
  if q.1 = 13 then am_x_isub X q i ls st S else
  if q.1 = 14 then am_x_imul X q i ls st S else
  if q.1 = 15 then am_x_iand X q i ls st S else
  if q.1 = 16 then am_x_ior X q i ls st S else
  if q.1 = 17 then am_x_ixor X q i ls st S else
  if q.1 = 18 then am_x_ishl X q i ls st S else
  if q.1 = 19 then am_x_ishr X q i ls st S else
  if q.1 = 20 then am_x_iushr X q i ls st S else
  if q.1 = 21 then am_x_ineg X q i ls st S else
  if q.1 = 22 then am_x_idiv X q i ls st S else
  if q.1 = 23 then am_x_irem X q i ls st S else
  if q.1 = 24 then am_x_ladd X q i ls st S else
  if q.1 = 25 then am_x_lsub X q i ls st S else
  if q.1 = 26 then am_x_lmul X q i ls st S else
  if q.1 = 27 then am_x_land X q i ls st S else
  if q.1 = 28 then am_x_lor X q i ls st S else
  if q.1 = 29 then am_x_lshl X q i ls st S else
  if q.1 = 30 then am_x_lushr X q i ls st S else
  if q.1 = 31 then am_x_lrem X q i ls st S else
  if q.1 = 32 then am_x_i2l X q i ls st S else
  if q.1 = 33 then am_x_l2i X q i ls st S else
  if q.1 = 34 then am_x_i2c X q i ls st S else
  if q.1 = 35 then am_x_lconst X q i ls st S else
  if q.1 = 36 then am_x_ldc2 X q i ls st S else
  if q.1 = 37 then am_x_dup X q i ls st S else
  if q.1 = 38 then am_x_pop X q i ls st S else
  if q.1 = 39 then am_x_dup2 X q i ls st S else
  if q.1 = 40 then am_x_ifc X q i ls st S else
  if q.1 = 41 then am_x_icmp X q i ls st S else
  if q.1 = 42 then am_x_goto X q i ls st S else
  if q.1 = 43 then am_x_tsw X q i ls st S else
  if q.1 = 44 then am_x_getf X q i ls st S else
  if q.1 = 45 then am_x_putf X q i ls st S else
  if q.1 = 46 then am_x_putr X q i ls st S else
  if q.1 = 47 then am_x_iald X q i ls st S else
  if q.1 = 48 then am_x_iast X q i ls st S else
  if q.1 = 49 then am_x_zald X q i ls st S else
  if q.1 = 50 then am_x_zast X q i ls st S else
  if q.1 = 51 then am_x_lald X q i ls st S else
  if q.1 = 52 then am_x_last X q i ls st S else
  if q.1 = 53 then am_x_aald X q i ls st S else
  if q.1 = 54 then am_x_aast X q i ls st S else
  if q.1 = 55 then am_x_alen X q i ls st S else
  if q.1 = 56 then am_x_gets X q i ls st S else
  if q.1 = 57 then am_x_gets_of_text X q i ls st S else
  if q.1 = 58 then am_x_ldcs X q i ls st S else
  if q.1 = 60 then am_x_invv X q i ls st S else
  if q.1 = 61 then am_x_invs X q i ls st S else
  if q.1 = 62 then am_x_invi X q i ls st S else
  if q.1 = 63 then am_x_invn X q i ls st S else
  if q.1 = 64 then am_x_invt X q i ls st S else
  if q.1 = 65 then am_x_oini X q i ls st S else
  if q.1 = 66 then am_x_new X q i ls st S else
  if q.1 = 67 then am_x_newa X q i ls st S else
  if q.1 = 68 then am_x_anew X q i ls st S else
  if q.1 = 69 then am_x_mnew X q i ls st S else
  if q.1 = 70 then am_x_acpy X q i ls st S else
  if q.1 = 71 then am_x_iret X q i ls st S else
  if q.1 = 72 then am_x_lret X q i ls st S else
  if q.1 = 73 then am_x_aret X q i ls st S else
  if q.1 = 74 then am_x_vret X q i ls st S else
  none
def am_c_iconst (G : Nat → am_M) (own mn : String) (cc : ByteArray) (rt : Option FieldType) (fr lo : Nat) (P : List (Nat × am_I)) (i pc : Nat) (q : am_I) : Bool := decide (decode cc pc = .ok (.iconst q.2.2.2.1, 1)) && am_nx P i pc 1
def am_c_bipush (G : Nat → am_M) (own mn : String) (cc : ByteArray) (rt : Option FieldType) (fr lo : Nat) (P : List (Nat × am_I)) (i pc : Nat) (q : am_I) : Bool := decide (decode cc pc = .ok (.bipush q.2.2.2.1, 2)) && decide ((Int8.ofInt q.2.2.2.1).toInt32 = Int32.ofInt q.2.2.2.1) && am_nx P i pc 2
def am_c_sipush (G : Nat → am_M) (own mn : String) (cc : ByteArray) (rt : Option FieldType) (fr lo : Nat) (P : List (Nat × am_I)) (i pc : Nat) (q : am_I) : Bool := decide (decode cc pc = .ok (.sipush q.2.2.2.1, 3)) && decide ((Int16.ofInt q.2.2.2.1).toInt32 = Int32.ofInt q.2.2.2.1) && am_nx P i pc 3
def am_c_ldc (G : Nat → am_M) (own mn : String) (cc : ByteArray) (rt : Option FieldType) (fr lo : Nat) (P : List (Nat × am_I)) (i pc : Nat) (q : am_I) : Bool := decide (decode cc pc = .ok (.ldc q.2.1, 2)) && am_has q.2.2.2.2 0 (.constant own q.2.1 (Int32.ofInt q.2.2.2.1)) && am_nx P i pc 2
def am_c_ldcw (G : Nat → am_M) (own mn : String) (cc : ByteArray) (rt : Option FieldType) (fr lo : Nat) (P : List (Nat × am_I)) (i pc : Nat) (q : am_I) : Bool := decide (decode cc pc = .ok (.ldc_w q.2.1, 3)) && am_has q.2.2.2.2 0 (.constant own q.2.1 (Int32.ofInt q.2.2.2.1)) && am_nx P i pc 3
def am_c_iload (G : Nat → am_M) (own mn : String) (cc : ByteArray) (rt : Option FieldType) (fr lo : Nat) (P : List (Nat × am_I)) (i pc : Nat) (q : am_I) : Bool := (if q.2.2.1 = 0 then (List.finRange 4).any (fun k => decide ((k : Nat) = q.2.1) && decide (decode cc pc = .ok (.iload_n k, 1))) && am_nx P i pc 1 else decide (decode cc pc = .ok (.iload q.2.1, 2)) && am_nx P i pc 2)
def am_c_aload (G : Nat → am_M) (own mn : String) (cc : ByteArray) (rt : Option FieldType) (fr lo : Nat) (P : List (Nat × am_I)) (i pc : Nat) (q : am_I) : Bool := (if q.2.2.1 = 0 then (List.finRange 4).any (fun k => decide ((k : Nat) = q.2.1) && decide (decode cc pc = .ok (.aload_n k, 1))) && am_nx P i pc 1 else decide (decode cc pc = .ok (.aload q.2.1, 2)) && am_nx P i pc 2)
def am_c_lload (G : Nat → am_M) (own mn : String) (cc : ByteArray) (rt : Option FieldType) (fr lo : Nat) (P : List (Nat × am_I)) (i pc : Nat) (q : am_I) : Bool := (if q.2.2.1 = 0 then (List.finRange 4).any (fun k => decide ((k : Nat) = q.2.1) && decide (decode cc pc = .ok (.lload_n k, 1))) && am_nx P i pc 1 else decide (decode cc pc = .ok (.lload q.2.1, 2)) && am_nx P i pc 2)
def am_c_istore (G : Nat → am_M) (own mn : String) (cc : ByteArray) (rt : Option FieldType) (fr lo : Nat) (P : List (Nat × am_I)) (i pc : Nat) (q : am_I) : Bool := (if q.2.2.1 = 0 then (List.finRange 4).any (fun k => decide ((k : Nat) = q.2.1) && decide (decode cc pc = .ok (.istore_n k, 1))) && am_nx P i pc 1 else decide (decode cc pc = .ok (.istore q.2.1, 2)) && am_nx P i pc 2)
def am_c_astore (G : Nat → am_M) (own mn : String) (cc : ByteArray) (rt : Option FieldType) (fr lo : Nat) (P : List (Nat × am_I)) (i pc : Nat) (q : am_I) : Bool := (if q.2.2.1 = 0 then (List.finRange 4).any (fun k => decide ((k : Nat) = q.2.1) && decide (decode cc pc = .ok (.astore_n k, 1))) && am_nx P i pc 1 else decide (decode cc pc = .ok (.astore q.2.1, 2)) && am_nx P i pc 2)
def am_c_lstore (G : Nat → am_M) (own mn : String) (cc : ByteArray) (rt : Option FieldType) (fr lo : Nat) (P : List (Nat × am_I)) (i pc : Nat) (q : am_I) : Bool := (if q.2.2.1 = 0 then (List.finRange 4).any (fun k => decide ((k : Nat) = q.2.1) && decide (decode cc pc = .ok (.lstore_n k, 1))) && am_nx P i pc 1 else decide (decode cc pc = .ok (.lstore q.2.1, 2)) && am_nx P i pc 2)
def am_c_iinc (G : Nat → am_M) (own mn : String) (cc : ByteArray) (rt : Option FieldType) (fr lo : Nat) (P : List (Nat × am_I)) (i pc : Nat) (q : am_I) : Bool := decide (decode cc pc = .ok (.iinc q.2.1 q.2.2.2.1, 3)) && am_nx P i pc 3
def am_c_iadd (G : Nat → am_M) (own mn : String) (cc : ByteArray) (rt : Option FieldType) (fr lo : Nat) (P : List (Nat × am_I)) (i pc : Nat) (q : am_I) : Bool := decide (decode cc pc = .ok (.iadd, 1)) && am_nx P i pc 1
def am_c_isub (G : Nat → am_M) (own mn : String) (cc : ByteArray) (rt : Option FieldType) (fr lo : Nat) (P : List (Nat × am_I)) (i pc : Nat) (q : am_I) : Bool := decide (decode cc pc = .ok (.isub, 1)) && am_nx P i pc 1
def am_c_imul (G : Nat → am_M) (own mn : String) (cc : ByteArray) (rt : Option FieldType) (fr lo : Nat) (P : List (Nat × am_I)) (i pc : Nat) (q : am_I) : Bool := decide (decode cc pc = .ok (.imul, 1)) && am_nx P i pc 1
def am_c_iand (G : Nat → am_M) (own mn : String) (cc : ByteArray) (rt : Option FieldType) (fr lo : Nat) (P : List (Nat × am_I)) (i pc : Nat) (q : am_I) : Bool := decide (decode cc pc = .ok (.iand, 1)) && am_nx P i pc 1
def am_c_ior (G : Nat → am_M) (own mn : String) (cc : ByteArray) (rt : Option FieldType) (fr lo : Nat) (P : List (Nat × am_I)) (i pc : Nat) (q : am_I) : Bool := decide (decode cc pc = .ok (.ior, 1)) && am_nx P i pc 1
def am_c_ixor (G : Nat → am_M) (own mn : String) (cc : ByteArray) (rt : Option FieldType) (fr lo : Nat) (P : List (Nat × am_I)) (i pc : Nat) (q : am_I) : Bool := decide (decode cc pc = .ok (.ixor, 1)) && am_nx P i pc 1
def am_c_ishl (G : Nat → am_M) (own mn : String) (cc : ByteArray) (rt : Option FieldType) (fr lo : Nat) (P : List (Nat × am_I)) (i pc : Nat) (q : am_I) : Bool := decide (decode cc pc = .ok (.ishl, 1)) && am_nx P i pc 1
def am_c_ishr (G : Nat → am_M) (own mn : String) (cc : ByteArray) (rt : Option FieldType) (fr lo : Nat) (P : List (Nat × am_I)) (i pc : Nat) (q : am_I) : Bool := decide (decode cc pc = .ok (.ishr, 1)) && am_nx P i pc 1
def am_c_iushr (G : Nat → am_M) (own mn : String) (cc : ByteArray) (rt : Option FieldType) (fr lo : Nat) (P : List (Nat × am_I)) (i pc : Nat) (q : am_I) : Bool := decide (decode cc pc = .ok (.iushr, 1)) && am_nx P i pc 1
def am_c_ineg (G : Nat → am_M) (own mn : String) (cc : ByteArray) (rt : Option FieldType) (fr lo : Nat) (P : List (Nat × am_I)) (i pc : Nat) (q : am_I) : Bool := decide (decode cc pc = .ok (.ineg, 1)) && am_nx P i pc 1
def am_c_idiv (G : Nat → am_M) (own mn : String) (cc : ByteArray) (rt : Option FieldType) (fr lo : Nat) (P : List (Nat × am_I)) (i pc : Nat) (q : am_I) : Bool := decide (decode cc pc = .ok (.idiv, 1)) && am_nx P i pc 1
def am_c_irem (G : Nat → am_M) (own mn : String) (cc : ByteArray) (rt : Option FieldType) (fr lo : Nat) (P : List (Nat × am_I)) (i pc : Nat) (q : am_I) : Bool := decide (decode cc pc = .ok (.irem, 1)) && am_nx P i pc 1
def am_c_ladd (G : Nat → am_M) (own mn : String) (cc : ByteArray) (rt : Option FieldType) (fr lo : Nat) (P : List (Nat × am_I)) (i pc : Nat) (q : am_I) : Bool := decide (decode cc pc = .ok (.ladd, 1)) && am_nx P i pc 1
def am_c_lsub (G : Nat → am_M) (own mn : String) (cc : ByteArray) (rt : Option FieldType) (fr lo : Nat) (P : List (Nat × am_I)) (i pc : Nat) (q : am_I) : Bool := decide (decode cc pc = .ok (.lsub, 1)) && am_nx P i pc 1
def am_c_lmul (G : Nat → am_M) (own mn : String) (cc : ByteArray) (rt : Option FieldType) (fr lo : Nat) (P : List (Nat × am_I)) (i pc : Nat) (q : am_I) : Bool := decide (decode cc pc = .ok (.lmul, 1)) && am_nx P i pc 1
def am_c_land (G : Nat → am_M) (own mn : String) (cc : ByteArray) (rt : Option FieldType) (fr lo : Nat) (P : List (Nat × am_I)) (i pc : Nat) (q : am_I) : Bool := decide (decode cc pc = .ok (.land, 1)) && am_nx P i pc 1
def am_c_lor (G : Nat → am_M) (own mn : String) (cc : ByteArray) (rt : Option FieldType) (fr lo : Nat) (P : List (Nat × am_I)) (i pc : Nat) (q : am_I) : Bool := decide (decode cc pc = .ok (.lor, 1)) && am_nx P i pc 1
def am_c_lshl (G : Nat → am_M) (own mn : String) (cc : ByteArray) (rt : Option FieldType) (fr lo : Nat) (P : List (Nat × am_I)) (i pc : Nat) (q : am_I) : Bool := decide (decode cc pc = .ok (.lshl, 1)) && am_nx P i pc 1
def am_c_lushr (G : Nat → am_M) (own mn : String) (cc : ByteArray) (rt : Option FieldType) (fr lo : Nat) (P : List (Nat × am_I)) (i pc : Nat) (q : am_I) : Bool := decide (decode cc pc = .ok (.lushr, 1)) && am_nx P i pc 1
def am_c_lrem (G : Nat → am_M) (own mn : String) (cc : ByteArray) (rt : Option FieldType) (fr lo : Nat) (P : List (Nat × am_I)) (i pc : Nat) (q : am_I) : Bool := decide (decode cc pc = .ok (.lrem, 1)) && am_nx P i pc 1
def am_c_i2l (G : Nat → am_M) (own mn : String) (cc : ByteArray) (rt : Option FieldType) (fr lo : Nat) (P : List (Nat × am_I)) (i pc : Nat) (q : am_I) : Bool := decide (decode cc pc = .ok (.i2l, 1)) && am_nx P i pc 1
def am_c_l2i (G : Nat → am_M) (own mn : String) (cc : ByteArray) (rt : Option FieldType) (fr lo : Nat) (P : List (Nat × am_I)) (i pc : Nat) (q : am_I) : Bool := decide (decode cc pc = .ok (.l2i, 1)) && am_nx P i pc 1
def am_c_i2c (G : Nat → am_M) (own mn : String) (cc : ByteArray) (rt : Option FieldType) (fr lo : Nat) (P : List (Nat × am_I)) (i pc : Nat) (q : am_I) : Bool := decide (decode cc pc = .ok (.i2c, 1)) && am_nx P i pc 1
def am_c_lconst (G : Nat → am_M) (own mn : String) (cc : ByteArray) (rt : Option FieldType) (fr lo : Nat) (P : List (Nat × am_I)) (i pc : Nat) (q : am_I) : Bool := (List.finRange 2).any (fun k => decide ((k : Nat) = q.2.1) && decide (decode cc pc = .ok (.lconst k, 1))) && am_nx P i pc 1
def am_c_ldc2 (G : Nat → am_M) (own mn : String) (cc : ByteArray) (rt : Option FieldType) (fr lo : Nat) (P : List (Nat × am_I)) (i pc : Nat) (q : am_I) : Bool := decide (decode cc pc = .ok (.ldc2_w q.2.1, 3)) && am_has q.2.2.2.2 0 (.constantLong own q.2.1 (Int64.ofInt q.2.2.2.1)) && am_nx P i pc 3
def am_c_dup (G : Nat → am_M) (own mn : String) (cc : ByteArray) (rt : Option FieldType) (fr lo : Nat) (P : List (Nat × am_I)) (i pc : Nat) (q : am_I) : Bool := decide (decode cc pc = .ok (.dup, 1)) && am_nx P i pc 1
def am_c_pop (G : Nat → am_M) (own mn : String) (cc : ByteArray) (rt : Option FieldType) (fr lo : Nat) (P : List (Nat × am_I)) (i pc : Nat) (q : am_I) : Bool := decide (decode cc pc = .ok (.pop, 1)) && am_nx P i pc 1
def am_c_dup2 (G : Nat → am_M) (own mn : String) (cc : ByteArray) (rt : Option FieldType) (fr lo : Nat) (P : List (Nat × am_I)) (i pc : Nat) (q : am_I) : Bool := decide (decode cc pc = .ok (.dup2, 1)) && am_nx P i pc 1
def am_c_ifc (G : Nat → am_M) (own mn : String) (cc : ByteArray) (rt : Option FieldType) (fr lo : Nat) (P : List (Nat × am_I)) (i pc : Nat) (q : am_I) : Bool := decide (decode cc pc = .ok (.ifCond (am_cd q.2.2.1) q.2.2.2.1, 3)) && am_nx P i pc 3 && am_tg P pc q.2.1 q.2.2.2.1
def am_c_icmp (G : Nat → am_M) (own mn : String) (cc : ByteArray) (rt : Option FieldType) (fr lo : Nat) (P : List (Nat × am_I)) (i pc : Nat) (q : am_I) : Bool := decide (decode cc pc = .ok (.if_icmp (am_cd q.2.2.1) q.2.2.2.1, 3)) && am_nx P i pc 3 && am_tg P pc q.2.1 q.2.2.2.1
def am_c_goto (G : Nat → am_M) (own mn : String) (cc : ByteArray) (rt : Option FieldType) (fr lo : Nat) (P : List (Nat × am_I)) (i pc : Nat) (q : am_I) : Bool := decide (decode cc pc = .ok (.goto q.2.2.2.1, 3)) && am_tg P pc q.2.1 q.2.2.2.1
def am_c_tsw (G : Nat → am_M) (own mn : String) (cc : ByteArray) (rt : Option FieldType) (fr lo : Nat) (P : List (Nat × am_I)) (i pc : Nat) (q : am_I) : Bool := decide (decode cc pc = .ok (.tableswitch (am_of P pc q.2.1) q.2.2.2.1 (q.2.2.2.1 + (q.2.2.2.2.length : Int) - 1) (q.2.2.2.2.map (am_of P pc)).toArray, q.2.2.1)) && am_tg P pc q.2.1 (am_of P pc q.2.1) && q.2.2.2.2.all (fun t => am_tg P pc t (am_of P pc t))
def am_c_getf (G : Nat → am_M) (own mn : String) (cc : ByteArray) (rt : Option FieldType) (fr lo : Nat) (P : List (Nat × am_I)) (i pc : Nat) (q : am_I) : Bool := decide (decode cc pc = .ok (.getfield q.2.2.2.1.toNat, 3)) && am_nx P i pc 3 && am_fl own q.2.2.2.1.toNat q.2.1 q.2.2.1 q.2.2.2.2
def am_c_putf (G : Nat → am_M) (own mn : String) (cc : ByteArray) (rt : Option FieldType) (fr lo : Nat) (P : List (Nat × am_I)) (i pc : Nat) (q : am_I) : Bool := decide (decode cc pc = .ok (.putfield q.2.2.2.1.toNat, 3)) && am_nx P i pc 3 && am_fl own q.2.2.2.1.toNat q.2.1 q.2.2.1 q.2.2.2.2 && (am_fd q.2.1 q.2.2.1).2.2.2 == false && (am_ft q.2.1 q.2.2.1 == .int || am_ft q.2.1 q.2.2.1 == .boolean)
def am_c_putr (G : Nat → am_M) (own mn : String) (cc : ByteArray) (rt : Option FieldType) (fr lo : Nat) (P : List (Nat × am_I)) (i pc : Nat) (q : am_I) : Bool := decide (decode cc pc = .ok (.putfield q.2.2.2.1.toNat, 3)) && am_nx P i pc 3 && am_fl own q.2.2.2.1.toNat q.2.1 q.2.2.1 q.2.2.2.2 && (am_fd q.2.1 q.2.2.1).2.2.2 == true && (am_fd q.2.1 q.2.2.1).1 == own && mn == "<init>" && am_rt (am_ft q.2.1 q.2.2.1)
def am_c_iald (G : Nat → am_M) (own mn : String) (cc : ByteArray) (rt : Option FieldType) (fr lo : Nat) (P : List (Nat × am_I)) (i pc : Nat) (q : am_I) : Bool := decide (decode cc pc = .ok (.iaload, 1)) && am_nx P i pc 1
def am_c_iast (G : Nat → am_M) (own mn : String) (cc : ByteArray) (rt : Option FieldType) (fr lo : Nat) (P : List (Nat × am_I)) (i pc : Nat) (q : am_I) : Bool := decide (decode cc pc = .ok (.iastore, 1)) && am_nx P i pc 1
def am_c_zald (G : Nat → am_M) (own mn : String) (cc : ByteArray) (rt : Option FieldType) (fr lo : Nat) (P : List (Nat × am_I)) (i pc : Nat) (q : am_I) : Bool := decide (decode cc pc = .ok (.baload, 1)) && am_nx P i pc 1
def am_c_zast (G : Nat → am_M) (own mn : String) (cc : ByteArray) (rt : Option FieldType) (fr lo : Nat) (P : List (Nat × am_I)) (i pc : Nat) (q : am_I) : Bool := decide (decode cc pc = .ok (.bastore, 1)) && am_nx P i pc 1
def am_c_lald (G : Nat → am_M) (own mn : String) (cc : ByteArray) (rt : Option FieldType) (fr lo : Nat) (P : List (Nat × am_I)) (i pc : Nat) (q : am_I) : Bool := decide (decode cc pc = .ok (.laload, 1)) && am_nx P i pc 1
def am_c_last (G : Nat → am_M) (own mn : String) (cc : ByteArray) (rt : Option FieldType) (fr lo : Nat) (P : List (Nat × am_I)) (i pc : Nat) (q : am_I) : Bool := decide (decode cc pc = .ok (.lastore, 1)) && am_nx P i pc 1
def am_c_aald (G : Nat → am_M) (own mn : String) (cc : ByteArray) (rt : Option FieldType) (fr lo : Nat) (P : List (Nat × am_I)) (i pc : Nat) (q : am_I) : Bool := decide (decode cc pc = .ok (.aaload, 1)) && am_nx P i pc 1
def am_c_aast (G : Nat → am_M) (own mn : String) (cc : ByteArray) (rt : Option FieldType) (fr lo : Nat) (P : List (Nat × am_I)) (i pc : Nat) (q : am_I) : Bool := decide (decode cc pc = .ok (.aastore, 1)) && am_nx P i pc 1
def am_c_alen (G : Nat → am_M) (own mn : String) (cc : ByteArray) (rt : Option FieldType) (fr lo : Nat) (P : List (Nat × am_I)) (i pc : Nat) (q : am_I) : Bool := decide (decode cc pc = .ok (.arraylength, 1)) && am_nx P i pc 1
def am_c_gets (G : Nat → am_M) (own mn : String) (cc : ByteArray) (rt : Option FieldType) (fr lo : Nat) (P : List (Nat × am_I)) (i pc : Nat) (q : am_I) : Bool := decide (decode cc pc = .ok (.getstatic q.2.2.2.1.toNat, 3)) && am_nx P i pc 3 && am_has q.2.2.2.2 0 (.fieldLink own q.2.2.2.1.toNat (am_sn q.2.2.1).1 (am_sn q.2.2.1).2.1 (am_sn q.2.2.1).2.2)
def am_c_gets_of_text (G : Nat → am_M) (own mn : String) (cc : ByteArray) (rt : Option FieldType) (fr lo : Nat) (P : List (Nat × am_I)) (i pc : Nat) (q : am_I) : Bool := decide (decode cc pc = .ok (.getfield q.2.2.2.1.toNat, 3)) && am_nx P i pc 3 && am_has q.2.2.2.2 0 (if q.2.2.1 = 0 then .fieldLink own q.2.2.2.1.toNat "java/lang/String" "coder" "B" else .fieldLink own q.2.2.2.1.toNat "java/lang/String" "value" "[B")
def am_c_ldcs (G : Nat → am_M) (own mn : String) (cc : ByteArray) (rt : Option FieldType) (fr lo : Nat) (P : List (Nat × am_I)) (i pc : Nat) (q : am_I) : Bool := decide (decode cc pc = .ok (.ldc 111, 2)) && am_nx P i pc 2 && own == "PassScreener$SkyReader"
def am_c_invv (G : Nat → am_M) (own mn : String) (cc : ByteArray) (rt : Option FieldType) (fr lo : Nat) (P : List (Nat × am_I)) (i pc : Nat) (q : am_I) : Bool := decide (decode cc pc = .ok (.invokevirtual q.2.2.2.1.toNat, 3)) && am_nx P i pc 3 && am_mv (G q.2.1) own q.2.2.2.1.toNat q.2.2.1 fr lo q.2.2.2.2 && (match q.2.2.2.2[5]? with
    | some ci => decide (ci < 13) && decide (am_rn ci = (G q.2.1).1.cls)
    | none => false)
def am_c_invs (G : Nat → am_M) (own mn : String) (cc : ByteArray) (rt : Option FieldType) (fr lo : Nat) (P : List (Nat × am_I)) (i pc : Nat) (q : am_I) : Bool := decide (decode cc pc = .ok (.invokestatic q.2.2.2.1.toNat, 3)) && am_nx P i pc 3 && am_ms (G q.2.1) own q.2.2.2.1.toNat q.2.2.1 fr lo q.2.2.2.2
def am_c_invi (G : Nat → am_M) (own mn : String) (cc : ByteArray) (rt : Option FieldType) (fr lo : Nat) (P : List (Nat × am_I)) (i pc : Nat) (q : am_I) : Bool := decide (decode cc pc = .ok (.invokespecial q.2.2.2.1.toNat, 3)) && am_nx P i pc 3 && am_mi (G q.2.1) own q.2.2.2.1.toNat q.2.2.1 fr lo q.2.2.2.2
def am_c_invn (G : Nat → am_M) (own mn : String) (cc : ByteArray) (rt : Option FieldType) (fr lo : Nat) (P : List (Nat × am_I)) (i pc : Nat) (q : am_I) : Bool := decide (decode cc pc = .ok (.invokespecial q.2.2.2.1.toNat, 3)) && am_nx P i pc 3 && am_mn (G q.2.1) own q.2.2.2.1.toNat q.2.2.1 fr lo q.2.2.2.2
def am_c_invt (G : Nat → am_M) (own mn : String) (cc : ByteArray) (rt : Option FieldType) (fr lo : Nat) (P : List (Nat × am_I)) (i pc : Nat) (q : am_I) : Bool := decide (decode cc pc = .ok (.invokevirtual q.2.2.2.1.toNat, 3)) && am_nx P i pc 3 && am_mv (G q.2.1) own q.2.2.2.1.toNat q.2.2.1 fr lo q.2.2.2.2 && decide ((G q.2.1).1.cls = "java/lang/String")
def am_c_oini (G : Nat → am_M) (own mn : String) (cc : ByteArray) (rt : Option FieldType) (fr lo : Nat) (P : List (Nat × am_I)) (i pc : Nat) (q : am_I) : Bool := decide (decode cc pc = .ok (.invokespecial q.2.2.2.1.toNat, 3)) && am_nx P i pc 3 && am_has q.2.2.2.2 0 (.methodLink own q.2.2.2.1.toNat objectInit) && am_has q.2.2.2.2 1 (.instanceMethod objectInit) && am_has q.2.2.2.2 2 (.code objectInit ⟨#[0xb1]⟩ 1 none) && decide (1 ≤ fr) && decide (20 ≤ lo)
def am_c_new (G : Nat → am_M) (own mn : String) (cc : ByteArray) (rt : Option FieldType) (fr lo : Nat) (P : List (Nat × am_I)) (i pc : Nat) (q : am_I) : Bool := decide (decode cc pc = .ok (.new q.2.2.2.1.toNat, 3)) && am_nx P i pc 3 && decide (q.2.1 < 13) && am_has q.2.2.2.2 0 (.classLink own q.2.2.2.1.toNat (am_rn q.2.1)) && am_has q.2.2.2.2 1 (.instantiable (am_rn q.2.1) (am_nf q.2.1)) && am_has q.2.2.2.2 2 (.initialized (am_rn q.2.1)) && (List.range (am_nf q.2.1)).all (fun k => am_rt (am_ft q.2.1 k) || am_ft q.2.1 k == .int || am_ft q.2.1 k == .boolean)
def am_c_newa (G : Nat → am_M) (own mn : String) (cc : ByteArray) (rt : Option FieldType) (fr lo : Nat) (P : List (Nat × am_I)) (i pc : Nat) (q : am_I) : Bool := decide (decode cc pc = .ok (.newarray (am_at q.2.1), 2)) && am_nx P i pc 2 && decide (20 ≤ q.2.1) && decide (q.2.1 < 23) && am_has q.2.2.2.2 0 (.arrayClass (newarray.typeOf (am_at q.2.1)))
def am_c_anew (G : Nat → am_M) (own mn : String) (cc : ByteArray) (rt : Option FieldType) (fr lo : Nat) (P : List (Nat × am_I)) (i pc : Nat) (q : am_I) : Bool := decide (decode cc pc = .ok (.anewarray q.2.2.2.1.toNat, 3)) && am_nx P i pc 3 && am_has q.2.2.2.2 0 (.classLink own q.2.2.2.1.toNat "PassScreener$Body")
def am_c_mnew (G : Nat → am_M) (own mn : String) (cc : ByteArray) (rt : Option FieldType) (fr lo : Nat) (P : List (Nat × am_I)) (i pc : Nat) (q : am_I) : Bool := decide (decode cc pc = .ok (.multianewarray q.2.2.2.1.toNat 2, 4)) && am_nx P i pc 4 && am_has q.2.2.2.2 0 (.classLink own q.2.2.2.1.toNat "[[I") && am_has q.2.2.2.2 1 (.arrayClass .int)
def am_c_acpy (G : Nat → am_M) (own mn : String) (cc : ByteArray) (rt : Option FieldType) (fr lo : Nat) (P : List (Nat × am_I)) (i pc : Nat) (q : am_I) : Bool := decide (decode cc pc = .ok (.invokestatic q.2.2.2.1.toNat, 3)) && am_nx P i pc 3 && am_has q.2.2.2.2 0 (.methodLink own q.2.2.2.1.toNat arraycopyName) && am_has q.2.2.2.2 1 (.native arraycopyName) && am_has q.2.2.2.2 2 (.static arraycopyName) && am_has q.2.2.2.2 3 (.initialized "java/lang/System") && decide (1 ≤ fr) && decide (8 + (nativeFrameWords "java/lang/System" "arraycopy" 5 + 11) ≤ lo)
def am_c_iret (G : Nat → am_M) (own mn : String) (cc : ByteArray) (rt : Option FieldType) (fr lo : Nat) (P : List (Nat × am_I)) (i pc : Nat) (q : am_I) : Bool := decide (decode cc pc = .ok (.ireturn, 1)) && rt == some (am_nt q.2.2.1)
def am_c_lret (G : Nat → am_M) (own mn : String) (cc : ByteArray) (rt : Option FieldType) (fr lo : Nat) (P : List (Nat × am_I)) (i pc : Nat) (q : am_I) : Bool := decide (decode cc pc = .ok (.lreturn, 1)) && rt == some .long
def am_c_aret (G : Nat → am_M) (own mn : String) (cc : ByteArray) (rt : Option FieldType) (fr lo : Nat) (P : List (Nat × am_I)) (i pc : Nat) (q : am_I) : Bool := decide (decode cc pc = .ok (.areturn, 1)) && rt == some (.object "PassScreener$Body")
def am_c_vret (G : Nat → am_M) (own mn : String) (cc : ByteArray) (rt : Option FieldType) (fr lo : Nat) (P : List (Nat × am_I)) (i pc : Nat) (q : am_I) : Bool := decide (decode cc pc = .ok (.return_, 1)) && rt == none
def am_ck (G : Nat → am_M) (own mn : String) (cc : ByteArray) (rt : Option FieldType) (fr lo : Nat) (P : List (Nat × am_I)) (i pc : Nat) (q : am_I) : Bool :=
  if q.1 = 0 then am_c_iconst G own mn cc rt fr lo P i pc q else
  if q.1 = 1 then am_c_bipush G own mn cc rt fr lo P i pc q else
  if q.1 = 2 then am_c_sipush G own mn cc rt fr lo P i pc q else
  if q.1 = 3 then am_c_ldc G own mn cc rt fr lo P i pc q else
  if q.1 = 4 then am_c_ldcw G own mn cc rt fr lo P i pc q else
  if q.1 = 5 then am_c_iload G own mn cc rt fr lo P i pc q else
  if q.1 = 6 then am_c_aload G own mn cc rt fr lo P i pc q else
  if q.1 = 7 then am_c_lload G own mn cc rt fr lo P i pc q else
  if q.1 = 8 then am_c_istore G own mn cc rt fr lo P i pc q else
  if q.1 = 9 then am_c_astore G own mn cc rt fr lo P i pc q else
  if q.1 = 10 then am_c_lstore G own mn cc rt fr lo P i pc q else
  if q.1 = 11 then am_c_iinc G own mn cc rt fr lo P i pc q else
  if q.1 = 12 then am_c_iadd G own mn cc rt fr lo P i pc q else
  if q.1 = 13 then am_c_isub G own mn cc rt fr lo P i pc q else
  if q.1 = 14 then am_c_imul G own mn cc rt fr lo P i pc q else
  if q.1 = 15 then am_c_iand G own mn cc rt fr lo P i pc q else
  if q.1 = 16 then am_c_ior G own mn cc rt fr lo P i pc q else
  if q.1 = 17 then am_c_ixor G own mn cc rt fr lo P i pc q else
  if q.1 = 18 then am_c_ishl G own mn cc rt fr lo P i pc q else
  if q.1 = 19 then am_c_ishr G own mn cc rt fr lo P i pc q else
  if q.1 = 20 then am_c_iushr G own mn cc rt fr lo P i pc q else
  if q.1 = 21 then am_c_ineg G own mn cc rt fr lo P i pc q else
  if q.1 = 22 then am_c_idiv G own mn cc rt fr lo P i pc q else
  if q.1 = 23 then am_c_irem G own mn cc rt fr lo P i pc q else
  if q.1 = 24 then am_c_ladd G own mn cc rt fr lo P i pc q else
  if q.1 = 25 then am_c_lsub G own mn cc rt fr lo P i pc q else
  if q.1 = 26 then am_c_lmul G own mn cc rt fr lo P i pc q else
  if q.1 = 27 then am_c_land G own mn cc rt fr lo P i pc q else
  if q.1 = 28 then am_c_lor G own mn cc rt fr lo P i pc q else
  if q.1 = 29 then am_c_lshl G own mn cc rt fr lo P i pc q else
  if q.1 = 30 then am_c_lushr G own mn cc rt fr lo P i pc q else
  if q.1 = 31 then am_c_lrem G own mn cc rt fr lo P i pc q else
  if q.1 = 32 then am_c_i2l G own mn cc rt fr lo P i pc q else
  if q.1 = 33 then am_c_l2i G own mn cc rt fr lo P i pc q else
  if q.1 = 34 then am_c_i2c G own mn cc rt fr lo P i pc q else
  if q.1 = 35 then am_c_lconst G own mn cc rt fr lo P i pc q else
  if q.1 = 36 then am_c_ldc2 G own mn cc rt fr lo P i pc q else
  if q.1 = 37 then am_c_dup G own mn cc rt fr lo P i pc q else
  if q.1 = 38 then am_c_pop G own mn cc rt fr lo P i pc q else
  if q.1 = 39 then am_c_dup2 G own mn cc rt fr lo P i pc q else
  if q.1 = 40 then am_c_ifc G own mn cc rt fr lo P i pc q else
  if q.1 = 41 then am_c_icmp G own mn cc rt fr lo P i pc q else
  if q.1 = 42 then am_c_goto G own mn cc rt fr lo P i pc q else
  if q.1 = 43 then am_c_tsw G own mn cc rt fr lo P i pc q else
  if q.1 = 44 then am_c_getf G own mn cc rt fr lo P i pc q else
  if q.1 = 45 then am_c_putf G own mn cc rt fr lo P i pc q else
  if q.1 = 46 then am_c_putr G own mn cc rt fr lo P i pc q else
  if q.1 = 47 then am_c_iald G own mn cc rt fr lo P i pc q else
  if q.1 = 48 then am_c_iast G own mn cc rt fr lo P i pc q else
  if q.1 = 49 then am_c_zald G own mn cc rt fr lo P i pc q else
  if q.1 = 50 then am_c_zast G own mn cc rt fr lo P i pc q else
  if q.1 = 51 then am_c_lald G own mn cc rt fr lo P i pc q else
  if q.1 = 52 then am_c_last G own mn cc rt fr lo P i pc q else
  if q.1 = 53 then am_c_aald G own mn cc rt fr lo P i pc q else
  if q.1 = 54 then am_c_aast G own mn cc rt fr lo P i pc q else
  if q.1 = 55 then am_c_alen G own mn cc rt fr lo P i pc q else
  if q.1 = 56 then am_c_gets G own mn cc rt fr lo P i pc q else
  if q.1 = 57 then am_c_gets_of_text G own mn cc rt fr lo P i pc q else
  if q.1 = 58 then am_c_ldcs G own mn cc rt fr lo P i pc q else
  if q.1 = 60 then am_c_invv G own mn cc rt fr lo P i pc q else
  if q.1 = 61 then am_c_invs G own mn cc rt fr lo P i pc q else
  if q.1 = 62 then am_c_invi G own mn cc rt fr lo P i pc q else
  if q.1 = 63 then am_c_invn G own mn cc rt fr lo P i pc q else
  if q.1 = 64 then am_c_invt G own mn cc rt fr lo P i pc q else
  if q.1 = 65 then am_c_oini G own mn cc rt fr lo P i pc q else
  if q.1 = 66 then am_c_new G own mn cc rt fr lo P i pc q else
  if q.1 = 67 then am_c_newa G own mn cc rt fr lo P i pc q else
  if q.1 = 68 then am_c_anew G own mn cc rt fr lo P i pc q else
  if q.1 = 69 then am_c_mnew G own mn cc rt fr lo P i pc q else
  if q.1 = 70 then am_c_acpy G own mn cc rt fr lo P i pc q else
  if q.1 = 71 then am_c_iret G own mn cc rt fr lo P i pc q else
  if q.1 = 72 then am_c_lret G own mn cc rt fr lo P i pc q else
  if q.1 = 73 then am_c_aret G own mn cc rt fr lo P i pc q else
  if q.1 = 74 then am_c_vret G own mn cc rt fr lo P i pc q else
  true
/-! a run: n steps at most, a call is one step of its caller -/
def am_ini (g : am_M) (vs : List Value) : List Value := let l := vs.flatMap (fun v => if v.category = 2 then [v, .null] else [v]); l ++ List.replicate (g.2.2.1 - l.length) .null
def am_run (G : Nat → am_M) (X : am_X) : Nat → List (Nat × am_I) → Nat → List Value → List Value → am_S → Option (Option Value × am_S)
  | 0, _, _, _, _, _ => none
  | n + 1, P, i, ls, st, S => match P[i]? with
    | none => none
    | some r => match am_step X r.2 i ls st S with
      | none => none
      | some (.inl (j, ls', st', S')) => am_run G X n P j ls' st' S'
      | some (.inr (.inl r)) => some r
      | some (.inr (.inr (m, vs, st'))) => if (am_ini (G m) vs).length = (G m).2.2.1 then match am_run G X n (G m).2.2.2.2.1 0 (am_ini (G m) vs) [] S with
        | none => none
        | some (v, S') => am_run G X n P (i + 1) ls (v.toList ++ st') S' else none

