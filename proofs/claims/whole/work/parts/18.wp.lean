/-! Conditions over whole numbers: what must hold that a stretch of a method ends well. -/
abbrev iq_V : Type := (Int ⊕ Int) ⊕ (Int64 ⊕ Option Nat)
abbrev iq_I : Type := Nat → Int → Int
abbrev iq_J : Type := Nat → Int → Int64
abbrev iq_LV : Type := List (Option iq_V)
abbrev iq_T : Type := Option iq_V → iq_I → iq_J → Prop
abbrev iq_c (n : Int) : iq_V := .inl (.inl n)
abbrev iq_i (z : Int) : iq_V := .inl (.inr z)
abbrev iq_l (x : Int64) : iq_V := .inr (.inl x)
abbrev iq_r (j : Nat) : iq_V := .inr (.inr (some j))
abbrev iq_n : iq_V := .inr (.inr none)
def iq_iv (v : Int ⊕ Int) : Int := match v with
  | .inl n => n
  | .inr z => z
def iq_lv (v : iq_V) : Value := match v with
  | .inl x => .int (Int32.ofInt (iq_iv x))
  | .inr (.inl x) => .long x
  | .inr (.inr (some j)) => .ref j
  | .inr (.inr none) => .null
def iq_up (g : iq_I) : Nat → Nat → Int32 := fun j k => Int32.ofInt (g j k)
def iq_uq (l : iq_J) : Nat → Nat → Int64 := fun j k => l j k
def iq_hp (g : iq_I) (l : iq_J) : ij_H := (ij_SH, iq_up g, iq_uq l, ij_HR)
def iq_ll (L : iq_LV) : ij_L := L.map (Option.map iq_lv)
def iq_uz {α : Type} (g : Nat → Int → α) (j : Nat) (i : Int) (v : α) : Nat → Int → α := fun a b => if a = j ∧ b = i then v else g a b
def iq_rz {α : Type} (g : Nat → Int → α) (j : Nat) (f : Int → α) : Nat → Int → α := fun a => if a = j then f else g a
def iq_cz {α : Type} (f g : Int → α) (sp dp n : Int) : Int → α := fun k => if dp ≤ k ∧ k < dp + n then f (sp + (k - dp)) else g k
/-! operations that have no name of their own over whole numbers -/
def iq_and (x y : Int) : Int := (Int32.ofInt x &&& Int32.ofInt y).toInt
def iq_or (x y : Int) : Int := (Int32.ofInt x ||| Int32.ofInt y).toInt
def iq_xor (x y : Int) : Int := (Int32.ofInt x ^^^ Int32.ofInt y).toInt
def iq_shl (x y : Int) : Int := (Int32.ofInt x <<< (Int32.ofInt y &&& 31)).toInt
def iq_shr (x y : Int) : Int := (Int32.ofInt x >>> (Int32.ofInt y &&& 31)).toInt
def iq_lc (x y : Int64) : Int := (lg_cmp x y).toInt
def iq_i2l (x : Int) : Int64 := (Int32.ofInt x).toInt64
def iq_l2i (x : Int64) : Int := x.toInt32.toInt
def iq_i2b (x : Int) : Int := (Int32.ofInt x).toInt8.toInt32.toInt
def iq_i2s (x : Int) : Int := (Int32.ofInt x).toInt16.toInt32.toInt
def iq_i2c (x : Int) : Int := ((Int32.ofInt x).toUInt32 % 65536).toInt32.toInt
def iq_lsl (x : Int64) (y : Int) : Int64 := x <<< ((Int32.ofInt y).toInt64 &&& 63)
def iq_lsr (x : Int64) (y : Int) : Int64 := (x.toUInt64 >>> ((Int32.ofInt y).toInt64.toUInt64 &&& Int64.toUInt64 63)).toInt64
/-! the steps -/
def iq_P (N : Nat) (xs : Nat → Int32) (y pc : Nat) (L : iq_LV) (st : List iq_V) (g : iq_I) (l : iq_J) (Q : iq_T) : Prop := ij_R (ij_xt N xs) y pc (iq_ll L) (st.map iq_lv) (iq_hp g l) (fun r h => ∃ r' g' l', r = r'.map iq_lv ∧ h = iq_hp g' l' ∧ Q r' g' l')
def iq_kl (L : iq_LV) (i : Nat) : iq_LV := match i with
  | 0 => L
  | j + 1 => match L[j]? with
    | some (some (.inr (.inl _))) => L.set j none
    | _ => L
def iq_s1 (L : iq_LV) (i : Nat) (v : iq_V) : Option iq_LV := bif Nat.blt i L.length then some ((iq_kl L i).set i (some v)) else none
def iq_s2 (L : iq_LV) (i : Nat) (v : iq_V) : Option iq_LV := bif Nat.blt (i + 1) L.length then some (((iq_kl L i).set (i + 1) none).set i (some v)) else none
def iq_ldi (L : iq_LV) (st : List iq_V) (k : Nat) : Option (iq_LV × List iq_V) := match L[k]? with
  | some (some (.inl x)) => some (L, .inl x :: st)
  | _ => none
def iq_ldl (L : iq_LV) (st : List iq_V) (k : Nat) : Option (iq_LV × List iq_V) := match L[k]? with
  | some (some (.inr (.inl x))) => some (L, .inr (.inl x) :: st)
  | _ => none
def iq_lda (L : iq_LV) (st : List iq_V) (k : Nat) : Option (iq_LV × List iq_V) := match L[k]? with
  | some (some (.inr (.inr (some x)))) => bif Nat.beq x 1999999 then none else some (L, .inr (.inr (some x)) :: st)
  | some (some (.inr (.inr none))) => some (L, .inr (.inr none) :: st)
  | _ => none
def iq_sti (L : iq_LV) (st : List iq_V) (k : Nat) : Option (iq_LV × List iq_V) := match st with
  | .inl x :: r => (iq_s1 L k (.inl x)).map (fun l => (l, r))
  | _ => none
def iq_stl (L : iq_LV) (st : List iq_V) (k : Nat) : Option (iq_LV × List iq_V) := match st with
  | .inr (.inl x) :: r => (iq_s2 L k (iq_l x)).map (fun l => (l, r))
  | _ => none
def iq_sta (L : iq_LV) (st : List iq_V) (k : Nat) : Option (iq_LV × List iq_V) := match st with
  | .inr (.inr (some x)) :: r => bif Nat.beq x 1999999 then none else (iq_s1 L k (iq_r x)).map (fun l => (l, r))
  | .inr (.inr none) :: r => (iq_s1 L k iq_n).map (fun l => (l, r))
  | _ => none
def iq_sL (i : Instr) (L : iq_LV) (st : List iq_V) : Option (iq_LV × List iq_V) := match i with
  | .iconst n => some (L, iq_c n :: st)
  | .bipush n => bif decide (-128 ≤ n) && decide (n ≤ 127) then some (L, iq_c n :: st) else none
  | .sipush n => bif decide (-32768 ≤ n) && decide (n ≤ 32767) then some (L, iq_c n :: st) else none
  | .lconst n => some (L, iq_l (Int64.ofNat (n : Nat)) :: st)
  | .aconst_null => some (L, iq_n :: st)
  | .iload k => iq_ldi L st k
  | .iload_n k => iq_ldi L st k
  | .lload k => iq_ldl L st k
  | .lload_n k => iq_ldl L st k
  | .aload k => iq_lda L st k
  | .aload_n k => iq_lda L st k
  | .istore k => iq_sti L st k
  | .istore_n k => iq_sti L st k
  | .lstore k => iq_stl L st k
  | .lstore_n k => iq_stl L st k
  | .astore k => iq_sta L st k
  | .astore_n k => iq_sta L st k
  | .iinc k n => (match L[k]? with
    | some (some (.inl x)) => (iq_s1 L k (iq_i (iq_iv x + n))).map (fun l => (l, st))
    | _ => none)
  | _ => none
def iq_sA (i : Instr) (st : List iq_V) : Option (List iq_V) := match st with
  | .inl y :: .inl x :: r => (match i with
    | .iadd => some (iq_i (iq_iv x + iq_iv y) :: r)
    | .isub => some (iq_i (iq_iv x - iq_iv y) :: r)
    | .imul => some (iq_i (iq_iv x * iq_iv y) :: r)
    | .iand => some (iq_i (iq_and (iq_iv x) (iq_iv y)) :: r)
    | .ior => some (iq_i (iq_or (iq_iv x) (iq_iv y)) :: r)
    | .ixor => some (iq_i (iq_xor (iq_iv x) (iq_iv y)) :: r)
    | .ishl => some (iq_i (iq_shl (iq_iv x) (iq_iv y)) :: r)
    | .ishr => some (iq_i (iq_shr (iq_iv x) (iq_iv y)) :: r)
    | _ => none)
  | _ => none
/-- divisions of ints -/
def iq_sD (i : Instr) (st : List iq_V) (K : List iq_V → Prop) : Prop := match st with
  | .inl y :: .inl x :: r => (-2147483648 < iq_iv x ∧ iq_iv x ≤ 2147483647 ∧ -2147483648 ≤ iq_iv y ∧ iq_iv y ≤ 2147483647 ∧ ¬ iq_iv y = 0) ∧ (match i with
    | .idiv => K (iq_i ((iq_iv x).tdiv (iq_iv y)) :: r)
    | .irem => K (iq_i ((iq_iv x).tmod (iq_iv y)) :: r)
    | _ => False)
  | _ => False
/-- divisions of longs -/
def iq_sE (i : Instr) (st : List iq_V) (K : List iq_V → Prop) : Prop := match st with
  | .inr (.inl y) :: .inr (.inl x) :: r => ¬ y = 0 ∧ (match i with
    | .ldiv => K (iq_l (x / y) :: r)
    | .lrem => K (iq_l (x - x / y * y) :: r)
    | _ => False)
  | _ => False
def iq_sB (i : Instr) (st : List iq_V) : Option (List iq_V) := match i with
  | .ladd => (match st with
    | .inr (.inl y) :: .inr (.inl x) :: r => some (iq_l (x + y) :: r)
    | _ => none)
  | .lsub => (match st with
    | .inr (.inl y) :: .inr (.inl x) :: r => some (iq_l (x - y) :: r)
    | _ => none)
  | .lmul => (match st with
    | .inr (.inl y) :: .inr (.inl x) :: r => some (iq_l (x * y) :: r)
    | _ => none)
  | .land => (match st with
    | .inr (.inl y) :: .inr (.inl x) :: r => some (iq_l (x &&& y) :: r)
    | _ => none)
  | .lor => (match st with
    | .inr (.inl y) :: .inr (.inl x) :: r => some (iq_l (x ||| y) :: r)
    | _ => none)
  | .lxor => (match st with
    | .inr (.inl y) :: .inr (.inl x) :: r => some (iq_l (x ^^^ y) :: r)
    | _ => none)
  | .lcmp => (match st with
    | .inr (.inl y) :: .inr (.inl x) :: r => some (iq_i (iq_lc x y) :: r)
    | _ => none)
  | .lshl => (match st with
    | .inl y :: .inr (.inl x) :: r => some (iq_l (iq_lsl x (iq_iv y)) :: r)
    | _ => none)
  | .lushr => (match st with
    | .inl y :: .inr (.inl x) :: r => some (iq_l (iq_lsr x (iq_iv y)) :: r)
    | _ => none)
  | .ineg => (match st with
    | .inl x :: r => some (iq_i (-iq_iv x) :: r)
    | _ => none)
  | .i2l => (match st with
    | .inl x :: r => some (iq_l (iq_i2l (iq_iv x)) :: r)
    | _ => none)
  | .i2b => (match st with
    | .inl x :: r => some (iq_i (iq_i2b (iq_iv x)) :: r)
    | _ => none)
  | .i2s => (match st with
    | .inl x :: r => some (iq_i (iq_i2s (iq_iv x)) :: r)
    | _ => none)
  | .i2c => (match st with
    | .inl x :: r => some (iq_i (iq_i2c (iq_iv x)) :: r)
    | _ => none)
  | .l2i => (match st with
    | .inr (.inl x) :: r => some (iq_i (iq_l2i x) :: r)
    | _ => none)
  | .dup => (match st with
    | .inl x :: r => some (.inl x :: .inl x :: r)
    | .inr (.inr (some x)) :: r => some (iq_r x :: iq_r x :: r)
    | _ => none)
  | .dup2 => (match st with
    | .inl y :: .inr (.inr (some x)) :: r => some (.inl y :: iq_r x :: .inl y :: iq_r x :: r)
    | _ => none)
  | .pop => (match st with
    | .inl _ :: r => some r
    | _ => none)
  | _ => none
/-! jumps -/
def iq_cp (k : Jvm.ClassFile.Cond) (x y : Int) (A B : Prop) : Prop := match k with
  | .eq => (x = y → A) ∧ (¬ x = y → B)
  | .ne => (¬ x = y → A) ∧ (x = y → B)
  | .lt => (x < y → A) ∧ (y ≤ x → B)
  | .ge => (y ≤ x → A) ∧ (x < y → B)
  | .gt => (y < x → A) ∧ (x ≤ y → B)
  | .le => (x ≤ y → A) ∧ (y < x → B)
def iq_rb (n : Int) : Bool := decide (-2147483648 ≤ n) && decide (n ≤ 2147483647)
def iq_cd (k : Jvm.ClassFile.Cond) (x y : Int) : Bool := match k with
  | .eq => decide (x = y)
  | .ne => !decide (x = y)
  | .lt => decide (x < y)
  | .ge => decide (y ≤ x)
  | .gt => decide (y < x)
  | .le => decide (x ≤ y)
def iq_br (k : Jvm.ClassFile.Cond) (x y : Int ⊕ Int) (A B : Prop) : Prop := match x, y with
  | .inl m, .inl n => bif iq_rb m && iq_rb n then (bif iq_cd k m n then A else B) else False
  | .inl m, .inr y => bif iq_rb m then (-2147483648 ≤ y ∧ y ≤ 2147483647) ∧ iq_cp k m y A B else False
  | .inr x, .inl n => bif iq_rb n then (-2147483648 ≤ x ∧ x ≤ 2147483647) ∧ iq_cp k x n A B else False
  | .inr x, .inr y => (-2147483648 ≤ x ∧ x ≤ 2147483647 ∧ -2147483648 ≤ y ∧ y ≤ 2147483647) ∧ iq_cp k x y A B
def iq_sw (K : Nat → Prop) (pc : Nat) (x : Int) : Int → List Int → Prop
  | _, [] => True
  | v, o :: os => (x = v → K (ij_tg pc o)) ∧ iq_sw K pc x (v + 1) os
def iq_sJ (i : Instr) (pc : Nat) (st : List iq_V) (K : Nat → List iq_V → Prop) : Prop := match i with
  | .goto o => K (ij_tg pc o) st
  | .ifCond k o => (match st with
    | .inl x :: r => iq_br k x (.inl 0) (K (ij_tg pc o) r) (K (pc + 3) r)
    | _ => False)
  | .if_icmp k o => (match st with
    | .inl y :: .inl x :: r => iq_br k x y (K (ij_tg pc o) r) (K (pc + 3) r)
    | _ => False)
  | .ifnull o => (match st with
    | .inr (.inr (some x)) :: r => bif Nat.beq x 1999999 then False else K (pc + 3) r
    | .inr (.inr none) :: r => K (ij_tg pc o) r
    | _ => False)
  | .ifnonnull o => (match st with
    | .inr (.inr (some x)) :: r => bif Nat.beq x 1999999 then False else K (ij_tg pc o) r
    | .inr (.inr none) :: r => K (pc + 3) r
    | _ => False)
  | .tableswitch d lo hi os => (match st with
    | .inl x :: r => (-2147483648 ≤ iq_iv x ∧ iq_iv x ≤ 2147483647 ∧ hi - lo + 1 = (os.toList.length : Nat)) ∧ iq_sw (fun t => K t r) pc (iq_iv x) lo os.toList ∧ ((iq_iv x < lo ∨ hi < iq_iv x) → K (ij_tg pc d) r)
    | _ => False)
  | _ => False
/-! the heap -/
def iq_ix (i : Int ⊕ Int) (n : Nat) (K : Int → Prop) : Prop := match i with
  | .inl m => bif decide (0 ≤ m) && decide (m < n) then K m else False
  | .inr x => (0 ≤ x ∧ x < n) ∧ K x
def iq_rf (o : Option Nat) (K : iq_V → Prop) : Prop := match o with
  | none => K iq_n
  | some x => bif Nat.blt x 1000000 then K (iq_r x) else False
def iq_hR (N : Nat) (xs : Nat → Int32) (i : Instr) (a b : Nat) (st : List iq_V) (g : iq_I) (l : iq_J) (K : List iq_V → Prop) : Prop := match i with
  | .getfield _ => (match st with
    | .inr (.inr (some j)) :: r => bif Nat.blt j 1000000 then (match ij_SH[j]? with
        | some (kd, n) => bif Nat.beq kd a && Nat.blt a 100 && Nat.blt b n then (match ij_tt a b with
          | 1 => K (iq_l (l j b) :: r)
          | 2 => iq_rf (ij_HR j b) (fun v => K (v :: r))
          | _ => K (iq_i (g j b) :: r)) else False
        | none => False)
      else bif Nat.ble 1000010 j && Nat.blt j 1000034 && Nat.beq a 114 then (match b with
        | 0 => K (iq_r (j + 50) :: r)
        | 1 => K (iq_c 0 :: r)
        | _ => False)
      else False
    | _ => False)
  | .iaload => (match st with
    | .inl i :: .inr (.inr (some j)) :: r => bif Nat.blt j 1000000 then (match ij_SH[j]? with
        | some (100, n) => iq_ix i n (fun m => K (iq_i (g j m) :: r))
        | _ => False)
      else (match ij_xt N xs j with
        | some (100, n, f) => (0 ≤ iq_iv i ∧ iq_iv i < n ∧ iq_iv i ≤ 65536) ∧ K (iq_i (f (iq_iv i).toNat).toInt :: r)
        | _ => False)
    | _ => False)
  | .baload => (match st with
    | .inl i :: .inr (.inr (some j)) :: r => bif Nat.blt j 1000000 then (match ij_SH[j]? with
        | some (102, n) => iq_ix i n (fun m => K (iq_i (g j m) :: r))
        | some (103, n) => iq_ix i n (fun m => K (iq_i (g j m) :: r))
        | _ => False)
      else (match ij_xt N xs j with
        | some (102, n, f) => (0 ≤ iq_iv i ∧ iq_iv i < n ∧ iq_iv i ≤ 65536) ∧ K (iq_i (f (iq_iv i).toNat).toInt :: r)
        | _ => False)
    | _ => False)
  | .laload => (match st with
    | .inl i :: .inr (.inr (some j)) :: r => bif Nat.blt j 1000000 then (match ij_SH[j]? with
        | some (101, n) => iq_ix i n (fun m => K (iq_l (l j m) :: r))
        | _ => False)
      else False
    | _ => False)
  | .aaload => (match st with
    | .inl i :: .inr (.inr (some j)) :: r => bif Nat.blt j 1000000 then (match ij_SH[j]? with
        | some (kd, n) => bif Nat.ble 104 kd && Nat.ble kd 106 then iq_ix i n (fun m => iq_rf (ij_HR j m.toNat) (fun v => K (v :: r))) else False
        | _ => False)
      else False
    | _ => False)
  | .arraylength => (match st with
    | .inr (.inr (some j)) :: r => bif Nat.blt j 1000000 then (match ij_SH[j]? with
        | some (kd, n) => bif Nat.ble 100 kd && Nat.ble kd 106 then K (iq_c n :: r) else False
        | none => False)
      else (match ij_xt N xs j with
        | some (_, n, _) => K (iq_i n :: r)
        | none => False)
    | _ => False)
  | .getstatic _ => (match a with
    | 0 => K (iq_r 1000001 :: st)
    | 1 => K (iq_r 1000002 :: st)
    | 2 => K (iq_r 1000003 :: st)
    | 3 => K (iq_c 1 :: st)
    | 4 => K (iq_r 1999999 :: st)
    | _ => False)
  | .ldc _ => (match a with
    | 0 => K (iq_c b :: st)
    | 1 => bif Nat.blt b 24 then K (iq_r (1000010 + b) :: st) else False
    | _ => False)
  | .ldc_w _ => (match a with
    | 0 => K (iq_c b :: st)
    | _ => False)
  | .ldc2_w _ => K (iq_l (Int64.ofNat b) :: st)
  | _ => False
def iq_bl (x : Int ⊕ Int) (K : Int → Prop) : Prop := match x with
  | .inl m => bif decide (m = 0) || decide (m = 1) then K m else False
  | .inr z => (z = 0 ∨ z = 1) ∧ K z
def iq_hW (N : Nat) (xs : Nat → Int32) (i : Instr) (a b : Nat) (st : List iq_V) (g : iq_I) (l : iq_J) (K : List iq_V → iq_I → iq_J → Prop) : Prop := match i with
  | .putfield _ => (match st with
    | v :: .inr (.inr (some j)) :: r => bif Nat.blt j 1000000 then (match ij_SH[j]? with
        | some (kd, n) => bif Nat.beq kd a && Nat.blt a 100 && Nat.blt b n then (match ij_tt a b, v with
          | 0, .inl x => K r (iq_uz g j b (iq_iv x)) l
          | 1, .inr (.inl x) => K r g (iq_uz l j b x)
          | 3, .inl x => iq_bl x (fun z => K r (iq_uz g j b z) l)
          | _, _ => False) else False
        | none => False)
      else False
    | _ => False)
  | .iastore => (match st with
    | .inl x :: .inl i :: .inr (.inr (some j)) :: r => bif Nat.blt j 1000000 then (match ij_SH[j]? with
        | some (100, n) => iq_ix i n (fun m => K r (iq_uz g j m (iq_iv x)) l)
        | _ => False)
      else False
    | _ => False)
  | .bastore => (match st with
    | .inl x :: .inl i :: .inr (.inr (some j)) :: r => bif Nat.blt j 1000000 then (match ij_SH[j]? with
        | some (102, n) => iq_ix i n (fun m => K r (iq_uz g j m (iq_i2b (iq_iv x))) l)
        | some (103, n) => iq_ix i n (fun m => iq_bl x (fun z => K r (iq_uz g j m z) l))
        | _ => False)
      else False
    | _ => False)
  | .lastore => (match st with
    | .inr (.inl x) :: .inl i :: .inr (.inr (some j)) :: r => bif Nat.blt j 1000000 then (match ij_SH[j]? with
        | some (101, n) => iq_ix i n (fun m => K r g (iq_uz l j m x))
        | _ => False)
      else False
    | _ => False)
  | _ => False
/-- arraycopy -/
def iq_ct (v : iq_V) : Nat := match v with
  | .inr (.inl _) => 2
  | _ => 1
def iq_ac (N : Nat) (xs : Nat → Int32) (st : List iq_V) (g : iq_I) (l : iq_J) (K : List iq_V → iq_I → iq_J → Prop) : Prop := match st with
  | .inl n :: .inl dp :: .inr (.inr (some d)) :: .inl sp :: .inr (.inr (some s)) :: r =>
    bif Nat.blt d 1000000 && Nat.ble (r.map iq_ct).sum 8 then (match ij_SH[d]? with
      | some (100, n1) => bif Nat.blt s 1000000 then (match ij_SH[s]? with
          | some (100, n0) => (0 ≤ iq_iv sp ∧ 0 ≤ iq_iv dp ∧ 0 ≤ iq_iv n ∧ iq_iv sp + iq_iv n ≤ n0 ∧ iq_iv dp + iq_iv n ≤ n1) ∧ K r (iq_rz g d (iq_cz (g s) (g d) (iq_iv sp) (iq_iv dp) (iq_iv n))) l
          | _ => False)
        else (match ij_xt N xs s with
          | some (100, n0, f) => (0 ≤ iq_iv sp ∧ 0 ≤ iq_iv dp ∧ 0 ≤ iq_iv n ∧ iq_iv sp + iq_iv n ≤ n0 ∧ iq_iv dp + iq_iv n ≤ n1 ∧ iq_iv sp ≤ 65536) ∧ K r (iq_rz g d (iq_cz (fun k => (f k.toNat).toInt) (g d) (iq_iv sp) (iq_iv dp) (iq_iv n))) l
          | _ => False)
      | some (101, n1) => bif Nat.blt s 1000000 then (match ij_SH[s]? with
          | some (101, n0) => (0 ≤ iq_iv sp ∧ 0 ≤ iq_iv dp ∧ 0 ≤ iq_iv n ∧ iq_iv sp + iq_iv n ≤ n0 ∧ iq_iv dp + iq_iv n ≤ n1) ∧ K r g (iq_rz l d (iq_cz (l s) (l d) (iq_iv sp) (iq_iv dp) (iq_iv n)))
          | _ => False)
        else False
      | _ => False)
    else False
  | _ => False
/-- ends -/
def iq_sR (rt : Nat) (i : Instr) (st : List iq_V) (Q : Option iq_V → Prop) : Prop := match i with
  | .return_ => (match rt, st with
    | 0, [] => Q none
    | _, _ => False)
  | .ireturn => (match st with
    | [.inl x] => (match rt with
      | 1 => Q (some (iq_i (iq_iv x)))
      | 3 => iq_bl x (fun z => Q (some (iq_i z)))
      | 4 => (-128 ≤ iq_iv x ∧ iq_iv x ≤ 127) ∧ Q (some (iq_i (iq_iv x)))
      | 5 => (0 ≤ iq_iv x ∧ iq_iv x ≤ 65535) ∧ Q (some (iq_i (iq_iv x)))
      | _ => False)
    | _ => False)
  | .lreturn => (match rt, st with
    | 2, [.inr (.inl x)] => Q (some (iq_l x))
    | _, _ => False)
  | .areturn => (match rt, st with
    | 6, [.inr (.inr (some x))] => bif Nat.beq x 1999999 then False else Q (some (iq_r x))
    | 6, [.inr (.inr none)] => Q (some iq_n)
    | _, _ => False)
  | _ => False
/-! calls -/
def iq_en : List iq_V → iq_LV
  | [] => []
  | .inr (.inl x) :: r => some (iq_l x) :: none :: iq_en r
  | .inl x :: r => some (iq_i (iq_iv x)) :: iq_en r
  | v :: r => some v :: iq_en r
def iq_entry (nL : Nat) (as : List iq_V) : iq_LV := iq_en as ++ List.replicate (nL - (iq_en as).length) none
def iq_cl (i : Instr) (n c : Nat) (st : List iq_V) (K : List iq_V → List iq_V → Prop) : Prop := match i with
  | .invokevirtual _ => (match st[n]? with
    | some (.inr (.inr (some j))) => bif ((Nat.ble 10 c && Nat.blt c 22 && Nat.blt j 1000000 && (match ij_SH[j]? with | some (kd, _) => Nat.beq kd (c - 10) | none => false)) || (Nat.beq c 30 && Nat.ble 1000010 j && Nat.blt j 1000034)) && Nat.ble ((st.drop (n + 1)).map iq_ct).sum 8 then K ((st.take (n + 1)).reverse) (st.drop (n + 1)) else False
    | _ => False)
  | .invokestatic _ => bif (Nat.beq c 1 || Nat.beq c 4) && Nat.ble n st.length && Nat.ble ((st.drop n).map iq_ct).sum 8 then K ((st.take n).reverse) (st.drop n) else False
  | .invokespecial _ => (match st[n]? with
    | some (.inr (.inr (some j))) => bif (Nat.beq c 2 || Nat.beq c 3) && Nat.blt j 1000000 && Nat.ble ((st.drop (n + 1)).map iq_ct).sum 8 then K ((st.take (n + 1)).reverse) (st.drop (n + 1)) else False
    | _ => False)
  | _ => False
/-- what a call gives, by its kind -/
def iq_rt (k : Nat) (r : Option iq_V) (K : List iq_V → Prop) (A : List iq_V → Prop) : Prop := match k with
  | 0 => r = none ∧ K []
  | 2 => ∃ x, r = some (iq_l x) ∧ K [iq_l x]
  | 6 => A r.toList
  | _ => ∃ z, r = some (iq_i z) ∧ K [iq_i z]
/-- which rule an instruction follows -/
def iq_kd (i : Instr) : Nat := match i with
  | .iconst _ => 0
  | .bipush _ => 0
  | .sipush _ => 0
  | .lconst _ => 0
  | .aconst_null => 0
  | .iload _ => 0
  | .iload_n _ => 0
  | .lload _ => 0
  | .lload_n _ => 0
  | .aload _ => 0
  | .aload_n _ => 0
  | .istore _ => 0
  | .istore_n _ => 0
  | .lstore _ => 0
  | .lstore_n _ => 0
  | .astore _ => 0
  | .astore_n _ => 0
  | .iinc _ _ => 0
  | .iadd => 1
  | .isub => 1
  | .imul => 1
  | .iand => 1
  | .ior => 1
  | .ixor => 1
  | .ishl => 1
  | .ishr => 1
  | .idiv => 2
  | .irem => 2
  | .ldiv => 4
  | .lrem => 4
  | .goto _ => 5
  | .ifCond _ _ => 5
  | .if_icmp _ _ => 5
  | .ifnull _ => 5
  | .ifnonnull _ => 5
  | .tableswitch _ _ _ _ => 5
  | .getfield _ => 6
  | .iaload => 6
  | .baload => 6
  | .laload => 6
  | .aaload => 6
  | .arraylength => 6
  | .getstatic _ => 6
  | .ldc _ => 6
  | .ldc_w _ => 6
  | .ldc2_w _ => 6
  | .putfield _ => 7
  | .iastore => 7
  | .bastore => 7
  | .lastore => 7
  | .return_ => 8
  | .ireturn => 8
  | .lreturn => 8
  | .areturn => 8
  | .invokevirtual _ => 9
  | .invokestatic _ => 9
  | .invokespecial _ => 9
  | _ => 3
/-- constants that are kept become numbers like any -/
def iq_nv (v : Option iq_V) : Option iq_V := match v with
  | some (.inl x) => some (iq_i (iq_iv x))
  | v => v
abbrev iq_K : Type := Nat → iq_LV → List iq_V → iq_I → iq_J → Prop
def iq_wb (N : Nat) (xs : Nat → Int32) (y : Nat) (Q : iq_T) (K : iq_K) (pc : Nat) (L : iq_LV) (st : List iq_V) (g : iq_I) (l : iq_J) : Prop := match (ij_tab y).lookup pc with
  | none => False
  | some (i, len, a, b, c) => match iq_kd i with
    | 0 => (match iq_sL i L st with
      | some q => K (pc + len) q.1 q.2 g l
      | none => False)
    | 1 => (match iq_sA i st with
      | some q => K (pc + len) L q g l
      | none => False)
    | 2 => iq_sD i st (fun q => K (pc + len) L q g l)
    | 3 => (match iq_sB i st with
      | some q => K (pc + len) L q g l
      | none => False)
    | 4 => iq_sE i st (fun q => K (pc + len) L q g l)
    | 5 => iq_sJ i pc st (fun t q => K t L q g l)
    | 6 => iq_hR N xs i a b st g l (fun q => K (pc + len) L q g l)
    | 7 => iq_hW N xs i a b st g l (fun q g' l' => K (pc + len) L q g' l')
    | 8 => iq_sR (ij_rk y) i st (fun r => Q r g l)
    | _ => bif Nat.beq a 999998 then (match i with
        | .invokestatic _ => iq_ac N xs st g l (fun q g' l' => K (pc + len) L q g' l')
        | _ => False)
      else bif Nat.beq a 999999 then False
      else iq_cl i b c st (fun as r => bif Nat.ble (iq_en as).length (ij_ml a) then iq_P N xs a 0 (iq_entry (ij_ml a) as) [] g l (fun v g' l' => iq_rt (ij_rk a) v (fun q => K (pc + 3) L (q ++ r) g' l') (fun q => iq_P N xs y (pc + 3) (L.map iq_nv) (q ++ r) g' l' Q)) else False)
def iq_w (N : Nat) (xs : Nat → Int32) (cuts : List Nat) (y : Nat) (Q : iq_T) : Nat → iq_K
  | 0 => fun _ _ _ _ _ => False
  | k + 1 => iq_wb N xs y Q (fun pc L st g l => bif cuts.elem pc then iq_P N xs y pc (L.map iq_nv) st g l Q else iq_w N xs cuts y Q k pc L st g l)
