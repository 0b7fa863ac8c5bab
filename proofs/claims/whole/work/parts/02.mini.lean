/-! A small machine: values are the machine's, but .ref k names the k-th cell of the world (k < 1000000) or an outer cell; the heap is a row of shapes (kind, size) and three tables of contents. Its runs are runs of the machine (part 04). -/
abbrev ij_M : Type := (Nat → Nat → Int32) × (Nat → Nat → Int64) × (Nat → Nat → Option Nat)
abbrev ij_H : Type := List (Nat × Nat) × ij_M
abbrev ij_L : Type := List (Option Value)
abbrev ij_E : Type := Instr × Nat × Nat × Nat × Nat
abbrev ij_X : Type := Nat → Option (Nat × Nat × (Nat → Int32))
def ij_ui (f : Nat → Nat → Int32) (j k : Nat) (v : Int32) : Nat → Nat → Int32 := fun a => if a = j then upd (f j) k v else f a
def ij_ul (f : Nat → Nat → Int64) (j k : Nat) (v : Int64) : Nat → Nat → Int64 := fun a => if a = j then vp_updL (f j) k v else f a
def ij_ur (f : Nat → Nat → Option Nat) (j k : Nat) (v : Option Nat) : Nat → Nat → Option Nat := fun a => if a = j then va_up (f j) k v else f a
def ij_row {α : Type} (f : Nat → Nat → α) (j : Nat) (r : Nat → α) : Nat → Nat → α := fun a => if a = j then r else f a
/-! locals -/
def ij_kill (ls : ij_L) (i : Nat) : ij_L := match i with
  | 0 => ls
  | j + 1 => match ls[j]? with
    | some (some (.long _)) => ls.set j none
    | some (some (.double _)) => ls.set j none
    | _ => ls
def ij_st1 (ls : ij_L) (i : Nat) (v : Value) : Option ij_L := if i < ls.length then some ((ij_kill ls i).set i (some v)) else none
def ij_st2 (ls : ij_L) (i : Nat) (v : Value) : Option ij_L := if i + 1 < ls.length then some (((ij_kill ls i).set (i + 1) none).set i (some v)) else none
def ij_ldi (ls : ij_L) (st : List Value) (i : Nat) : Option (ij_L × List Value) := match ls[i]? with
  | some (some (.int x)) => some (ls, .int x :: st)
  | _ => none
def ij_ldl (ls : ij_L) (st : List Value) (i : Nat) : Option (ij_L × List Value) := match ls[i]? with
  | some (some (.long x)) => some (ls, .long x :: st)
  | _ => none
def ij_lda (ls : ij_L) (st : List Value) (i : Nat) : Option (ij_L × List Value) := match ls[i]? with
  | some (some (.ref x)) => if x = 1999999 then none else some (ls, .ref x :: st)
  | some (some .null) => some (ls, .null :: st)
  | _ => none
def ij_sti (ls : ij_L) (st : List Value) (i : Nat) : Option (ij_L × List Value) := match st with
  | .int x :: r => (ij_st1 ls i (.int x)).map (fun l => (l, r))
  | _ => none
def ij_stl (ls : ij_L) (st : List Value) (i : Nat) : Option (ij_L × List Value) := match st with
  | .long x :: r => (ij_st2 ls i (.long x)).map (fun l => (l, r))
  | _ => none
def ij_sta (ls : ij_L) (st : List Value) (i : Nat) : Option (ij_L × List Value) := match st with
  | .ref x :: r => if x = 1999999 then none else (ij_st1 ls i (.ref x)).map (fun l => (l, r))
  | .null :: r => (ij_st1 ls i .null).map (fun l => (l, r))
  | _ => none
/-- constants, loads, stores -/
def ij_sL (i : Instr) (ls : ij_L) (st : List Value) : Option (ij_L × List Value) := match i with
  | .iconst n => some (ls, .int (Int32.ofInt n) :: st)
  | .bipush n => some (ls, .int (Int8.ofInt n).toInt32 :: st)
  | .sipush n => some (ls, .int (Int16.ofInt n).toInt32 :: st)
  | .lconst n => some (ls, .long (Int64.ofNat (n : Nat)) :: st)
  | .aconst_null => some (ls, .null :: st)
  | .iload k => ij_ldi ls st k
  | .iload_n k => ij_ldi ls st k
  | .lload k => ij_ldl ls st k
  | .lload_n k => ij_ldl ls st k
  | .aload k => ij_lda ls st k
  | .aload_n k => ij_lda ls st k
  | .istore k => ij_sti ls st k
  | .istore_n k => ij_sti ls st k
  | .lstore k => ij_stl ls st k
  | .lstore_n k => ij_stl ls st k
  | .astore k => ij_sta ls st k
  | .astore_n k => ij_sta ls st k
  | .iinc k n => match ls[k]? with
    | some (some (.int x)) => (ij_st1 ls k (.int (x + Int32.ofInt n))).map (fun l => (l, st))
    | _ => none
  | _ => none
/-- arithmetic on ints -/
def ij_sA (i : Instr) (st : List Value) : Option (List Value) := match st with
  | .int y :: .int x :: r => (match i with
    | .iadd => some (.int (x + y) :: r)
    | .isub => some (.int (x - y) :: r)
    | .imul => some (.int (x * y) :: r)
    | .iand => some (.int (x &&& y) :: r)
    | .ior => some (.int (x ||| y) :: r)
    | .ixor => some (.int (x ^^^ y) :: r)
    | .idiv => if y = 0 then none else some (.int (x / y) :: r)
    | .irem => if y = 0 then none else some (.int (x - x / y * y) :: r)
    | .ishl => some (.int (x <<< (y &&& 31)) :: r)
    | .ishr => some (.int (x >>> (y &&& 31)) :: r)
    | _ => none)
  | _ => none
/-- arithmetic on longs, conversions, the stack -/
def ij_sB (i : Instr) (st : List Value) : Option (List Value) := match i with
  | .ladd => (match st with
    | .long y :: .long x :: r => some (.long (x + y) :: r)
    | _ => none)
  | .lsub => (match st with
    | .long y :: .long x :: r => some (.long (x - y) :: r)
    | _ => none)
  | .lmul => (match st with
    | .long y :: .long x :: r => some (.long (x * y) :: r)
    | _ => none)
  | .land => (match st with
    | .long y :: .long x :: r => some (.long (x &&& y) :: r)
    | _ => none)
  | .lor => (match st with
    | .long y :: .long x :: r => some (.long (x ||| y) :: r)
    | _ => none)
  | .lxor => (match st with
    | .long y :: .long x :: r => some (.long (x ^^^ y) :: r)
    | _ => none)
  | .ldiv => (match st with
    | .long y :: .long x :: r => if y = 0 then none else some (.long (x / y) :: r)
    | _ => none)
  | .lrem => (match st with
    | .long y :: .long x :: r => if y = 0 then none else some (.long (x - x / y * y) :: r)
    | _ => none)
  | .lcmp => (match st with
    | .long y :: .long x :: r => some (.int (lg_cmp x y) :: r)
    | _ => none)
  | .lshl => (match st with
    | .int y :: .long x :: r => some (.long (x <<< (y.toInt64 &&& 63)) :: r)
    | _ => none)
  | .lushr => (match st with
    | .int y :: .long x :: r => some (.long (x.toUInt64 >>> (y.toInt64.toUInt64 &&& Int64.toUInt64 63)).toInt64 :: r)
    | _ => none)
  | .ineg => (match st with
    | .int x :: r => some (.int (-x) :: r)
    | _ => none)
  | .i2l => (match st with
    | .int x :: r => some (.long x.toInt64 :: r)
    | _ => none)
  | .i2b => (match st with
    | .int x :: r => some (.int x.toInt8.toInt32 :: r)
    | _ => none)
  | .i2s => (match st with
    | .int x :: r => some (.int x.toInt16.toInt32 :: r)
    | _ => none)
  | .i2c => (match st with
    | .int x :: r => some (.int (x.toUInt32 % 65536).toInt32 :: r)
    | _ => none)
  | .l2i => (match st with
    | .long x :: r => some (.int x.toInt32 :: r)
    | _ => none)
  | .dup => (match st with
    | .int x :: r => some (.int x :: .int x :: r)
    | .ref x :: r => some (.ref x :: .ref x :: r)
    | _ => none)
  | .dup2 => (match st with
    | .int y :: .ref x :: r => some (.int y :: .ref x :: .int y :: .ref x :: r)
    | _ => none)
  | .pop => (match st with
    | .int _ :: r => some r
    | _ => none)
  | _ => none
/-- jumps: the next place, and the stack -/
def ij_tg (pc : Nat) (off : Int) : Nat := ((pc : Int) + off).toNat
def ij_bI (i : Instr) (pc : Nat) (st : List Value) : Option (Nat × List Value) := match i with
  | .goto o => some (ij_tg pc o, st)
  | .ifCond k o => (match st with
    | .int x :: r => (match k with
      | .eq => some (if x = 0 then ij_tg pc o else pc + 3, r)
      | .ne => some (if x = 0 then pc + 3 else ij_tg pc o, r)
      | .lt => some (if x < 0 then ij_tg pc o else pc + 3, r)
      | .ge => some (if 0 ≤ x then ij_tg pc o else pc + 3, r)
      | .gt => some (if 0 < x then ij_tg pc o else pc + 3, r)
      | .le => some (if x ≤ 0 then ij_tg pc o else pc + 3, r))
    | _ => none)
  | .if_icmp k o => (match st with
    | .int y :: .int x :: r => (match k with
      | .eq => some (if x = y then ij_tg pc o else pc + 3, r)
      | .ne => some (if x = y then pc + 3 else ij_tg pc o, r)
      | .lt => some (if x < y then ij_tg pc o else pc + 3, r)
      | .ge => some (if y ≤ x then ij_tg pc o else pc + 3, r)
      | .gt => some (if y < x then ij_tg pc o else pc + 3, r)
      | .le => some (if x ≤ y then ij_tg pc o else pc + 3, r))
    | _ => none)
  | .ifnull o => (match st with
    | .ref x :: r => if x = 1999999 then none else some (pc + 3, r)
    | .null :: r => some (ij_tg pc o, r)
    | _ => none)
  | .ifnonnull o => (match st with
    | .ref x :: r => if x = 1999999 then none else some (ij_tg pc o, r)
    | .null :: r => some (pc + 3, r)
    | _ => none)
  | .tableswitch d lo hi os => (match st with
    | .int x :: r => if x.toInt < lo ∨ hi < x.toInt then some (ij_tg pc d, r) else (match os[(x.toInt - lo).toNat]? with
      | some o => some (ij_tg pc o, r)
      | none => none)
    | _ => none)
  | _ => none
/-- is this jump within bounds -/
def ij_jok (pc : Nat) (i : Instr) : Bool := match i with
  | .goto o => decide (0 ≤ (pc : Int) + o)
  | .ifCond _ o => decide (0 ≤ (pc : Int) + o)
  | .if_icmp _ o => decide (0 ≤ (pc : Int) + o)
  | .ifnull o => decide (0 ≤ (pc : Int) + o)
  | .ifnonnull o => decide (0 ≤ (pc : Int) + o)
  | .tableswitch d _ _ os => decide (0 ≤ (pc : Int) + d) && os.toList.all (fun o => decide (0 ≤ (pc : Int) + o))
  | _ => true
/-! the heap. Kinds: below 100 an object of that class; 100 int[], 101 long[], 102 byte[], 103 boolean[], 104 .. arrays of objects of the classes 8, 4, 6. -/
/-- of a class's field: 0 an int, 1 a long, 2 a reference, 3 a boolean -/
def ij_fk (tt : Nat → Nat → Nat) (ci k : Nat) : Nat := tt ci k
def ij_rv (o : Option Nat) : Option Value := match o with
  | none => some .null
  | some x => if x < 1000000 then some (.ref x) else none
def ij_fv (t : Nat) (m : ij_M) (j k : Nat) : Option Value := match t with
  | 1 => some (.long (m.2.1 j k))
  | 2 => ij_rv (m.2.2 j k)
  | _ => some (.int (m.1 j k))
def ij_put (t : Nat) (m : ij_M) (j k : Nat) (v : Value) : Option ij_M := match t, v with
  | 0, .int x => some (ij_ui m.1 j k x, m.2.1, m.2.2)
  | 1, .long x => some (m.1, ij_ul m.2.1 j k x, m.2.2)
  | 2, .ref x => if x < 1000000 then some (m.1, m.2.1, ij_ur m.2.2 j k (some x)) else none
  | 3, .int x => if x = 0 ∨ x = 1 then some (ij_ui m.1 j k x, m.2.1, m.2.2) else none
  | _, _ => none
def ij_new (h : ij_H) (kd n : Nat) : ij_H := (h.1 ++ [(kd, n)], ij_row h.2.1 h.1.length (fun _ => 0), ij_row h.2.2.1 h.1.length (fun _ => 0), ij_row h.2.2.2 h.1.length (fun _ => none))
def ij_akind (t : ArrayType) : Nat := match t with
  | .int => 100
  | .long => 101
  | .byte => 102
  | .boolean => 103
  | _ => 0
def ij_ecl (kd : Nat) : Nat := match kd with
  | 104 => 8
  | 105 => 4
  | _ => 6
/-- reads: arrays, fields, statics, constants that stand in the tables -/
def ij_hR (tt : Nat → Nat → Nat) (xt : ij_X) (i : Instr) (a b : Nat) (st : List Value) (h : ij_H) : Option (List Value) := match i with
  | .getfield _ => (match st with
    | .ref j :: r => if j < 1000000 then (match h.1[j]? with
        | some (kd, n) => if kd = a ∧ a < 100 ∧ b < n then (ij_fv (tt a b) h.2 j b).map (fun v => v :: r) else none
        | none => none)
      else if 1000010 ≤ j ∧ j < 1000034 ∧ a = 114 then (match b with
        | 0 => some (.ref (j + 50) :: r)
        | 1 => some (.int 0 :: r)
        | _ => none)
      else none
    | _ => none)
  | .iaload => (match st with
    | .int i :: .ref j :: r => if j < 1000000 then (match h.1[j]? with
        | some (100, n) => if i < 0 ∨ n ≤ i.toNatClampNeg then none else some (.int (h.2.1 j i.toNatClampNeg) :: r)
        | _ => none)
      else (match xt j with
        | some (100, n, f) => if i < 0 ∨ n ≤ i.toNatClampNeg then none else some (.int (f i.toNatClampNeg) :: r)
        | _ => none)
    | _ => none)
  | .baload => (match st with
    | .int i :: .ref j :: r => if j < 1000000 then (match h.1[j]? with
        | some (102, n) => if i < 0 ∨ n ≤ i.toNatClampNeg then none else some (.int (h.2.1 j i.toNatClampNeg) :: r)
        | some (103, n) => if i < 0 ∨ n ≤ i.toNatClampNeg then none else some (.int (h.2.1 j i.toNatClampNeg) :: r)
        | _ => none)
      else (match xt j with
        | some (102, n, f) => if i < 0 ∨ n ≤ i.toNatClampNeg then none else some (.int (f i.toNatClampNeg) :: r)
        | _ => none)
    | _ => none)
  | .laload => (match st with
    | .int i :: .ref j :: r => if j < 1000000 then (match h.1[j]? with
        | some (101, n) => if i < 0 ∨ n ≤ i.toNatClampNeg then none else some (.long (h.2.2.1 j i.toNatClampNeg) :: r)
        | _ => none)
      else none
    | _ => none)
  | .aaload => (match st with
    | .int i :: .ref j :: r => if j < 1000000 then (match h.1[j]? with
        | some (kd, n) => if kd < 104 ∨ 106 < kd ∨ i < 0 ∨ n ≤ i.toNatClampNeg then none else (ij_rv (h.2.2.2 j i.toNatClampNeg)).map (fun v => v :: r)
        | none => none)
      else none
    | _ => none)
  | .arraylength => (match st with
    | .ref j :: r => if j < 1000000 then (match h.1[j]? with
        | some (kd, n) => if kd < 100 ∨ 106 < kd then none else some (.int (Int32.ofNat n) :: r)
        | none => none)
      else (match xt j with
        | some (_, n, _) => some (.int (Int32.ofNat n) :: r)
        | none => none)
    | _ => none)
  | .getstatic _ => (match a with
    | 0 => some (.ref 1000001 :: st)
    | 1 => some (.ref 1000002 :: st)
    | 2 => some (.ref 1000003 :: st)
    | 3 => some (.int 1 :: st)
    | 4 => some (.ref 1999999 :: st)
    | _ => none)
  | .ldc _ => (match a with
    | 0 => some (.int (Int32.ofNat b) :: st)
    | 1 => if b < 24 then some (.ref (1000010 + b) :: st) else none
    | _ => none)
  | .ldc_w _ => (match a with
    | 0 => some (.int (Int32.ofNat b) :: st)
    | _ => none)
  | .ldc2_w _ => some (.long (Int64.ofNat b) :: st)
  | .invokespecial _ => (match a, st with
    | 999999, .ref j :: r => if j < 1000000 ∧ (r.map fun v => v.category).sum ≤ 8 then some r else none
    | _, _ => none)
  | _ => none
/-- writes: fields, arrays, new cells, copies -/
def ij_hW (tt : Nat → Nat → Nat) (xt : ij_X) (i : Instr) (a b : Nat) (st : List Value) (h : ij_H) : Option (List Value × ij_H) := match i with
  | .putfield _ => (match st with
    | v :: .ref j :: r => if j < 1000000 then (match h.1[j]? with
        | some (kd, n) => if kd = a ∧ a < 100 ∧ b < n then (ij_put (tt a b) h.2 j b v).map (fun m => (r, h.1, m)) else none
        | none => none)
      else none
    | _ => none)
  | .iastore => (match st with
    | .int x :: .int i :: .ref j :: r => if j < 1000000 then (match h.1[j]? with
        | some (100, n) => if i < 0 ∨ n ≤ i.toNatClampNeg then none else some (r, h.1, ij_ui h.2.1 j i.toNatClampNeg x, h.2.2)
        | _ => none)
      else none
    | _ => none)
  | .bastore => (match st with
    | .int x :: .int i :: .ref j :: r => if j < 1000000 then (match h.1[j]? with
        | some (102, n) => if i < 0 ∨ n ≤ i.toNatClampNeg then none else some (r, h.1, ij_ui h.2.1 j i.toNatClampNeg (vp_nar .byte x), h.2.2)
        | some (103, n) => if i < 0 ∨ n ≤ i.toNatClampNeg then none else some (r, h.1, ij_ui h.2.1 j i.toNatClampNeg (vp_nar .boolean x), h.2.2)
        | _ => none)
      else none
    | _ => none)
  | .lastore => (match st with
    | .long x :: .int i :: .ref j :: r => if j < 1000000 then (match h.1[j]? with
        | some (101, n) => if i < 0 ∨ n ≤ i.toNatClampNeg then none else some (r, h.1, h.2.1, ij_ul h.2.2.1 j i.toNatClampNeg x, h.2.2.2)
        | _ => none)
      else none
    | _ => none)
  | .aastore => (match st with
    | .ref v :: .int i :: .ref j :: r => if j < 1000000 ∧ v < 1000000 then (match h.1[j]?, h.1[v]? with
        | some (kd, n), some (kv, _) => if kd < 104 ∨ 106 < kd ∨ ¬ kv = ij_ecl kd ∨ i < 0 ∨ n ≤ i.toNatClampNeg then none else some (r, h.1, h.2.1, h.2.2.1, ij_ur h.2.2.2 j i.toNatClampNeg (some v))
        | _, _ => none)
      else none
    | _ => none)
  | .newarray t => (match st with
    | .int n :: r => if n < 0 ∨ ij_akind t = 0 ∨ 65536 < n.toNatClampNeg ∨ 999999 < h.1.length then none else some (.ref h.1.length :: r, ij_new h (ij_akind t) n.toNatClampNeg)
    | _ => none)
  | .anewarray _ => (match st with
    | .int n :: r => if n < 0 ∨ a < 104 ∨ 106 < a ∨ 65536 < n.toNatClampNeg ∨ 999999 < h.1.length then none else some (.ref h.1.length :: r, ij_new h a n.toNatClampNeg)
    | _ => none)
  | .new _ => if a < 12 ∧ h.1.length < 1000000 then some (.ref h.1.length :: st, ij_new h a b) else none
  | .invokestatic _ => (match a, st with
    | 999998, .int n :: .int dp :: .ref d :: .int sp :: .ref s :: r =>
      if d < 1000000 ∧ ¬ sp < 0 ∧ ¬ dp < 0 ∧ ¬ n < 0 ∧ (r.map fun v => v.category).sum ≤ 8 then (match h.1[d]? with
        | some (100, n1) => if n1 < dp.toNatClampNeg + n.toNatClampNeg then none else if s < 1000000 then (match h.1[s]? with
            | some (100, n0) => if n0 < sp.toNatClampNeg + n.toNatClampNeg then none else some (r, h.1, ij_row h.2.1 d (va_cpy (h.2.1 s) (h.2.1 d) sp.toNatClampNeg dp.toNatClampNeg n.toNatClampNeg), h.2.2)
            | _ => none)
          else (match xt s with
            | some (100, n0, f) => if n0 < sp.toNatClampNeg + n.toNatClampNeg then none else some (r, h.1, ij_row h.2.1 d (va_cpy f (h.2.1 d) sp.toNatClampNeg dp.toNatClampNeg n.toNatClampNeg), h.2.2)
            | _ => none)
        | some (101, n1) => if n1 < dp.toNatClampNeg + n.toNatClampNeg then none else if s < 1000000 then (match h.1[s]? with
            | some (101, n0) => if n0 < sp.toNatClampNeg + n.toNatClampNeg then none else some (r, h.1, h.2.1, ij_row h.2.2.1 d (va_cpy (h.2.2.1 s) (h.2.2.1 d) sp.toNatClampNeg dp.toNatClampNeg n.toNatClampNeg), h.2.2.2)
            | _ => none)
          else none
        | _ => none)
      else none
    | _, _ => none)
  | _ => none
/-- ends: rt 0 void, 1 int, 2 long, 3 boolean, 4 byte, 5 char, 6 a reference -/
def ij_rI (rt : Nat) (i : Instr) (st : List Value) : Option (Option Value) := match i with
  | .return_ => (match rt, st with
    | 0, [] => some none
    | _, _ => none)
  | .ireturn => (match st with
    | [.int x] => (match rt with
      | 1 => some (some (.int x))
      | 3 => if x = 0 ∨ x = 1 then some (some (.int x)) else none
      | 4 => if narrow .byte (.int x) = .int x then some (some (.int x)) else none
      | 5 => if narrow .char (.int x) = .int x then some (some (.int x)) else none
      | _ => none)
    | _ => none)
  | .lreturn => (match rt, st with
    | 2, [.long x] => some (some (.long x))
    | _, _ => none)
  | .areturn => (match rt, st with
    | 6, [.ref x] => if x = 1999999 then none else some (some (.ref x))
    | 6, [.null] => some (some .null)
    | _, _ => none)
  | _ => none
/-- calls: kinds 1 static, 4 static of a nest mate, 2 special, 3 special of a nest mate, 10 + ci virtual on an object of the class ci, 30 virtual on a String: the arguments (the receiver first), the rest of the stack -/
def ij_cI (i : Instr) (n c : Nat) (st : List Value) (h : ij_H) : Option (List Value × List Value) := match i with
  | .invokevirtual _ => (match st[n]? with
    | some (.ref j) => if ((10 ≤ c ∧ c < 22 ∧ j < 1000000 ∧ (h.1[j]?).map Prod.fst = some (c - 10)) ∨ (c = 30 ∧ 1000010 ≤ j ∧ j < 1000034)) ∧ (((st.drop (n + 1)).map fun v => v.category).sum) ≤ 8 then some ((st.take (n + 1)).reverse, st.drop (n + 1)) else none
    | _ => none)
  | .invokestatic _ => if (c = 1 ∨ c = 4) ∧ n ≤ st.length ∧ (((st.drop n).map fun v => v.category).sum) ≤ 8 then some ((st.take n).reverse, st.drop n) else none
  | .invokespecial _ => (match st[n]? with
    | some (.ref j) => if (c = 2 ∨ c = 3) ∧ j < 1000000 ∧ (((st.drop (n + 1)).map fun v => v.category).sum) ≤ 8 then some ((st.take (n + 1)).reverse, st.drop (n + 1)) else none
    | _ => none)
  | _ => none
/-- the locals with which a method begins -/
def ij_ent : List Value → ij_L
  | [] => []
  | .long x :: r => some (.long x) :: none :: ij_ent r
  | .double x :: r => some (.double x) :: none :: ij_ent r
  | v :: r => some v :: ij_ent r
def ij_entry (nL : Nat) (as : List Value) : Option ij_L := if (ij_ent as).length ≤ nL then some (ij_ent as ++ List.replicate (nL - (ij_ent as).length) none) else none
/-- tables of a program: a method's rows, its number of locals, its kind of answer; a class's kinds of fields -/
abbrev ij_G : Type := (Nat → List (Nat × ij_E)) × (Nat → Nat) × (Nat → Nat) × (Nat → Nat → Nat)
def ij_run (G : ij_G) (xt : ij_X) : Nat → Nat → Nat → ij_L → List Value → ij_H → Option (Option Value × ij_H)
  | 0, _, _, _, _, _ => none
  | n + 1, y, pc, ls, st, h => match (G.1 y).lookup pc with
    | none => none
    | some (i, len, a, b, c) => match ij_sL i ls st with
      | some q => ij_run G xt n y (pc + len) q.1 q.2 h
      | none => match ij_sA i st with
        | some q => ij_run G xt n y (pc + len) ls q h
        | none => match ij_bI i pc st with
          | some q => ij_run G xt n y q.1 ls q.2 h
          | none => match ij_hR G.2.2.2 xt i a b st h with
            | some q => ij_run G xt n y (pc + len) ls q h
            | none => match ij_sB i st with
              | some q => ij_run G xt n y (pc + len) ls q h
              | none => match ij_hW G.2.2.2 xt i a b st h with
                | some q => ij_run G xt n y (pc + len) ls q.1 q.2
                | none => match ij_rI (G.2.2.1 y) i st with
                  | some q => some (q, h)
                  | none => match ij_cI i b c st h with
                    | some q => (match ij_entry (G.2.1 a) q.1 with
                      | some l0 => (match ij_run G xt n a 0 l0 [] h with
                        | some z => ij_run G xt n y (pc + 3) ls (z.1.toList ++ q.2) z.2
                        | none => none)
                      | none => none)
                    | none => none
