/-! Long.bitCount counts the bits. -/
def ij_us (x : Int64) (k : Int32) : Int64 := (x.toUInt64 >>> (k.toInt64.toUInt64 &&& Int64.toUInt64 63)).toInt64
def ij_pc1 (x : Int64) : Int64 := x - (ij_us x 1 &&& Int64.ofNat 6148914691236517205)
def ij_pc2 (x : Int64) : Int64 := (x &&& Int64.ofNat 3689348814741910323) + (ij_us x 2 &&& Int64.ofNat 3689348814741910323)
def ij_pc3 (x : Int64) : Int64 := (x + ij_us x 4) &&& Int64.ofNat 1085102592571150095
def ij_pc4 (x : Int64) (k : Int32) : Int64 := x + ij_us x k
def ij_pc (x : Int64) : Int32 := (ij_pc4 (ij_pc4 (ij_pc4 (ij_pc3 (ij_pc2 (ij_pc1 x))) 8) 16) 32).toInt32 &&& 127
set_option maxRecDepth 10000 in
theorem s_bitCount {xt : ij_X} {hi : Nat → Nat → Int32} {hl : Nat → Nat → Int64} {Q : Option Value → ij_H → Prop} (a0 : Int64) (q : Q (some (.int (ij_pc a0))) (ij_SH, hi, hl, ij_HR)) : ij_R xt 88 0 [some (.long a0), none] [] (ij_SH, hi, hl, ij_HR) Q := by
  refine ij_go 8 10 [some (.long (ij_pc1 a0)), none] [] (ij_SH, hi, hl, ij_HR) (fun n => rfl) ?_
  unfold ij_pc at q
  generalize ij_pc1 a0 = x at q
  refine ij_go 10 24 [some (.long (ij_pc2 x)), none] [] (ij_SH, hi, hl, ij_HR) (fun n => rfl) ?_
  generalize ij_pc2 x = x at q
  refine ij_go 8 34 [some (.long (ij_pc3 x)), none] [] (ij_SH, hi, hl, ij_HR) (fun n => rfl) ?_
  generalize ij_pc3 x = x at q
  refine ij_go 6 41 [some (.long (ij_pc4 x 8)), none] [] (ij_SH, hi, hl, ij_HR) (fun n => rfl) ?_
  generalize ij_pc4 x 8 = x at q
  refine ij_go 6 48 [some (.long (ij_pc4 x 16)), none] [] (ij_SH, hi, hl, ij_HR) (fun n => rfl) ?_
  generalize ij_pc4 x 16 = x at q
  refine ij_go 6 55 [some (.long (ij_pc4 x 32)), none] [] (ij_SH, hi, hl, ij_HR) (fun n => rfl) ?_
  generalize ij_pc4 x 32 = x at q
  exact ij_ret 5 (some (.int (x.toInt32 &&& 127))) (ij_SH, hi, hl, ij_HR) (fun n => rfl) q
/-! bytes -/
def iq_M (m : Nat) : Nat → Nat
  | 0 => 0
  | k + 1 => m + 256 * iq_M m k
theorem iq_tbs {a b : Nat} (h : a < 256) (i : Nat) : (a + 256 * b).testBit i = if i < 8 then a.testBit i else b.testBit (i - 8) := by
  have := Nat.testBit_two_pow_mul_add b (b := a) (i := 8) h i
  rw [Nat.add_comm]
  exact this
theorem iq_as {a b m n : Nat} (h1 : a < 256) (h2 : m < 256) : ((a + 256 * b) &&& (m + 256 * n)) = (a &&& m) + 256 * (b &&& n) := by
  apply Nat.eq_of_testBit_eq
  intro i
  have h3 : a &&& m < 256 := Nat.and_lt_two_pow _ (n := 8) h2
  rw [Nat.testBit_and, iq_tbs h1, iq_tbs h2, iq_tbs h3]
  split <;> rw [Nat.testBit_and]
theorem iq_ss {a b m n s : Nat} (hs : s ≤ 8) (h1 : a < 256) (h2 : m < 2 ^ (8 - s)) : (((a + 256 * b) >>> s) &&& (m + 256 * n)) = ((a >>> s) &&& m) + 256 * ((b >>> s) &&& n) := by
  have hm : m < 256 := Nat.lt_of_lt_of_le h2 (Nat.pow_le_pow_right (n := 2) (by decide) (show 8 - s ≤ 8 by omega))
  apply Nat.eq_of_testBit_eq
  intro i
  have h3 : a >>> s &&& m < 256 := Nat.and_lt_two_pow _ (n := 8) hm
  rw [Nat.testBit_and, Nat.testBit_shiftRight, iq_tbs h1, iq_tbs hm, iq_tbs h3]
  by_cases c : i < 8
  · rw [if_pos c, if_pos c, Nat.testBit_and, Nat.testBit_shiftRight]
    by_cases c2 : s + i < 8
    · rw [if_pos c2]
    · have : m.testBit i = false := Nat.testBit_lt_two_pow (Nat.lt_of_lt_of_le h2 (Nat.pow_le_pow_right (n := 2) (by decide) (by omega)))
      rw [this]; simp
  · rw [if_neg c, if_neg c, if_neg (by omega), Nat.testBit_and, Nat.testBit_shiftRight]
    congr 2
    omega
def iq_f1 (k x : Nat) : Nat := x - ((x >>> 1) &&& iq_M 85 k)
def iq_f2 (k x : Nat) : Nat := (x &&& iq_M 51 k) + ((x >>> 2) &&& iq_M 51 k)
def iq_f3 (k x : Nat) : Nat := (x + (x >>> 4)) &&& iq_M 15 k
def iq_F1 (a : Nat) : Nat := a - ((a >>> 1) &&& 85)
def iq_F2 (a : Nat) : Nat := (a &&& 51) + ((a >>> 2) &&& 51)
def iq_c8 (a : Nat) : Nat := iq_F2 (iq_F1 a) % 16 + iq_F2 (iq_F1 a) / 16
theorem iq_F12 : ∀ a : Fin 256, iq_F1 a.val < 256 ∧ iq_F2 (iq_F1 a.val) < 256 ∧ iq_F2 (iq_F1 a.val) % 16 ≤ 4 ∧ iq_F2 (iq_F1 a.val) / 16 ≤ 4 := by decide +kernel
theorem iq_f1s {k a b : Nat} (h : a < 256) : iq_f1 (k + 1) (a + 256 * b) = iq_F1 a + 256 * iq_f1 k b := by
  unfold iq_f1 iq_F1
  rw [iq_M, iq_ss (by omega) h (by decide)]
  have e1 : (a >>> 1 &&& 85) ≤ a := Nat.le_trans Nat.and_le_left (Nat.shiftRight_le a 1)
  have e2 : (b >>> 1 &&& iq_M 85 k) ≤ b := Nat.le_trans Nat.and_le_left (Nat.shiftRight_le b 1)
  omega
theorem iq_f2s {k a b : Nat} (h : a < 256) : iq_f2 (k + 1) (a + 256 * b) = iq_F2 a + 256 * iq_f2 k b := by
  unfold iq_f2 iq_F2
  rw [iq_M, iq_as h (by decide), iq_ss (by omega) h (by decide)]
  omega
theorem iq_f3s {k a b : Nat} (h : a < 256) (h1 : a % 16 ≤ 4) (h2 : a / 16 ≤ 4) (h3 : b % 16 ≤ 4) : iq_f3 (k + 1) (a + 256 * b) = (a % 16 + a / 16) + 256 * iq_f3 k b := by
  unfold iq_f3
  rw [iq_M]
  have e0 : (a + 256 * b) >>> 4 = a / 16 + 16 * b := by
    rw [Nat.shiftRight_eq_div_pow]
    omega
  have e1 : b >>> 4 = b / 16 := by
    rw [Nat.shiftRight_eq_div_pow]
  have e2 : a + 256 * b + (a + 256 * b) >>> 4 = ((a % 16 + a / 16) + 16 * (a / 16 + b % 16)) + 256 * (b + b >>> 4) := by
    rw [e0, e1]; omega
  rw [e2, iq_as (by omega) (by decide)]
  congr 1
  have e3 : ((a % 16 + a / 16) + 16 * (a / 16 + b % 16)) &&& 15 = ((a % 16 + a / 16) + 16 * (a / 16 + b % 16)) % 16 := Nat.and_two_pow_sub_one_eq_mod _ 4
  rw [e3]
  omega
def iq_S : Nat → Nat → Nat
  | 0, _ => 0
  | k + 1, x => iq_c8 (x % 256) + 256 * iq_S k (x / 256)
theorem iq_f0 (m : Nat) : iq_M m 0 = 0 := rfl
theorem iq_fS (k : Nat) : ∀ x : Nat, x < 256 ^ k → iq_f3 k (iq_f2 k (iq_f1 k x)) = iq_S k x ∧ iq_f2 k (iq_f1 k x) % 16 ≤ 4 := by
  induction k with
  | zero =>
    intro x hx
    have : x = 0 := by simpa using hx
    subst this
    exact ⟨by decide, by decide⟩
  | succ k ih =>
    intro x hx
    have hb : x / 256 < 256 ^ k := by
      rw [Nat.pow_succ] at hx
      exact Nat.div_lt_of_lt_mul (by omega)
    obtain ⟨ih1, ih2⟩ := ih (x / 256) hb
    have ha : x % 256 < 256 := Nat.mod_lt _ (by decide)
    have hx2 : x = x % 256 + 256 * (x / 256) := by omega
    obtain ⟨p1, p2, p3, p4⟩ := iq_F12 ⟨x % 256, ha⟩
    dsimp only at p1 p2 p3 p4
    have e1 : iq_f1 (k + 1) x = iq_F1 (x % 256) + 256 * iq_f1 k (x / 256) := by
      have := iq_f1s (k := k) (b := x / 256) ha
      rw [← hx2] at this
      exact this
    rw [e1, iq_f2s p1, iq_f3s p2 p3 p4 ih2, ih1]
    refine ⟨rfl, ?_⟩
    omega
theorem iq_fB (k : Nat) : ∀ x : Nat, x < 256 ^ k → iq_f2 k (iq_f1 k x) + (iq_f2 k (iq_f1 k x)) >>> 4 < 256 ^ k := by
  induction k with
  | zero =>
    intro x hx
    have : x = 0 := by simpa using hx
    subst this
    decide
  | succ k ih =>
    intro x hx
    have hb : x / 256 < 256 ^ k := by
      rw [Nat.pow_succ] at hx
      exact Nat.div_lt_of_lt_mul (by omega)
    have ih1 := ih (x / 256) hb
    have ih2 := (iq_fS k (x / 256) hb).2
    have ha : x % 256 < 256 := Nat.mod_lt _ (by decide)
    have hx2 : x = x % 256 + 256 * (x / 256) := by omega
    obtain ⟨p1, p2, p3, p4⟩ := iq_F12 ⟨x % 256, ha⟩
    dsimp only at p1 p2 p3 p4
    have e1 : iq_f1 (k + 1) x = iq_F1 (x % 256) + 256 * iq_f1 k (x / 256) := by
      have := iq_f1s (k := k) (b := x / 256) ha
      rw [← hx2] at this
      exact this
    rw [e1, iq_f2s p1]
    rw [Nat.shiftRight_eq_div_pow] at ih1 ⊢
    rw [Nat.pow_succ]
    generalize iq_f2 k (iq_f1 k (x / 256)) = b at *
    generalize iq_F2 (iq_F1 (x % 256)) = a at *
    clear e1 hx hb ih hx2 ha
    omega
theorem iq_usn {x : Int64} {k : Int32} {n : Nat} (hn : n < 64) (h : (k.toInt64.toUInt64 &&& Int64.toUInt64 63).toBitVec % 64 = BitVec.ofNat 64 n) : (ij_us x k).toBitVec.toNat = x.toBitVec.toNat >>> n := by
  unfold ij_us
  show (x.toUInt64 >>> _).toBitVec.toNat = _
  rw [UInt64.toBitVec_shiftRight, h, BitVec.ushiftRight_eq', BitVec.toNat_ushiftRight, BitVec.toNat_ofNat]
  show x.toBitVec.toNat >>> (n % 2 ^ 64) = _
  rw [Nat.mod_eq_of_lt (by omega)]
theorem iq_lt64 (x : Int64) : x.toBitVec.toNat < 256 ^ 8 := x.toBitVec.isLt
theorem iq_p1 (x : Int64) : (ij_pc1 x).toBitVec.toNat = iq_f1 8 x.toBitVec.toNat := by
  unfold ij_pc1 iq_f1
  rw [Int64.toBitVec_sub, BitVec.toNat_sub, Int64.toBitVec_and, BitVec.toNat_and, iq_usn (n := 1) (by decide) (by decide +kernel)]
  have e1 : (Int64.ofNat 6148914691236517205).toBitVec.toNat = iq_M 85 8 := by decide +kernel
  rw [e1]
  have e2 : (x.toBitVec.toNat >>> 1 &&& iq_M 85 8) ≤ x.toBitVec.toNat := Nat.le_trans Nat.and_le_left (Nat.shiftRight_le _ 1)
  have e3 := x.toBitVec.isLt
  omega
theorem iq_p2 (x : Int64) (h : iq_f2 8 x.toBitVec.toNat < 256 ^ 8) : (ij_pc2 x).toBitVec.toNat = iq_f2 8 x.toBitVec.toNat := by
  unfold ij_pc2
  unfold iq_f2 at h ⊢
  rw [Int64.toBitVec_add, BitVec.toNat_add, Int64.toBitVec_and, BitVec.toNat_and, Int64.toBitVec_and, BitVec.toNat_and, iq_usn (n := 2) (by decide) (by decide +kernel)]
  have e1 : (Int64.ofNat 3689348814741910323).toBitVec.toNat = iq_M 51 8 := by decide +kernel
  rw [e1]
  exact Nat.mod_eq_of_lt h
theorem iq_p3 (x : Int64) (h : x.toBitVec.toNat + x.toBitVec.toNat >>> 4 < 256 ^ 8) : (ij_pc3 x).toBitVec.toNat = iq_f3 8 x.toBitVec.toNat := by
  unfold ij_pc3 iq_f3
  rw [Int64.toBitVec_and, BitVec.toNat_and, Int64.toBitVec_add, BitVec.toNat_add, iq_usn (n := 4) (by decide) (by decide +kernel)]
  have e1 : (Int64.ofNat 1085102592571150095).toBitVec.toNat = iq_M 15 8 := by decide +kernel
  rw [e1]
  rw [Nat.mod_eq_of_lt (show _ < 2 ^ 64 from h)]
theorem iq_p4 {x : Int64} {k : Int32} {n : Nat} (hn : n < 64) (hk : (k.toInt64.toUInt64 &&& Int64.toUInt64 63).toBitVec % 64 = BitVec.ofNat 64 n) (h : x.toBitVec.toNat + x.toBitVec.toNat / 2 ^ n < 2 ^ 64) : (ij_pc4 x k).toBitVec.toNat = x.toBitVec.toNat + x.toBitVec.toNat / 2 ^ n := by
  unfold ij_pc4
  rw [Int64.toBitVec_add, BitVec.toNat_add, iq_usn hn hk, Nat.shiftRight_eq_div_pow]
  exact Nat.mod_eq_of_lt h
theorem iq_and127 (x : Int64) : (x.toInt32 &&& 127).toInt = ((x.toBitVec.toNat % 128 : Nat) : Int) := by
  have e1 : (x.toInt32 &&& 127).toBitVec.toNat = x.toBitVec.toNat % 128 := by
    rw [Int32.toBitVec_and, BitVec.toNat_and]
    have e2 : x.toInt32.toBitVec.toNat = x.toBitVec.toNat % 2 ^ 32 := by
      show (x.toBitVec.signExtend 32).toNat = _
      rw [BitVec.signExtend_eq_setWidth_of_le _ (by decide), BitVec.toNat_setWidth]
    have e3 : (127 : Int32).toBitVec.toNat = 2 ^ 7 - 1 := by decide
    rw [e2, e3, Nat.and_two_pow_sub_one_eq_mod]
    omega
  have e4 : (x.toInt32 &&& 127).toInt = (x.toInt32 &&& 127).toBitVec.toInt := rfl
  rw [e4, BitVec.toInt_eq_toNat_of_lt (by rw [e1]; omega), e1]
/-! the count -/
def iq_cN (f : Nat → Bool) : Nat → Nat
  | 0 => 0
  | n + 1 => iq_cN f n + (if f n then 1 else 0)
theorem iq_cN_add (f : Nat → Bool) (a b : Nat) : iq_cN f (a + b) = iq_cN f a + iq_cN (fun i => f (a + i)) b := by
  induction b with
  | zero => rfl
  | succ b ih =>
    rw [← Nat.add_assoc, iq_cN, iq_cN, ih]
    omega
theorem iq_cN_congr {f h : Nat → Bool} {n : Nat} (e : ∀ i, i < n → f i = h i) : iq_cN f n = iq_cN h n := by
  induction n with
  | zero => rfl
  | succ n ih =>
    rw [iq_cN, iq_cN, ih (fun i hi => e i (by omega)), e n (by omega)]
theorem iq_c8v : ∀ a : Fin 256, iq_c8 a.val = iq_cN a.val.testBit 8 ∧ iq_c8 a.val ≤ 8 := by decide +kernel
def iq_D : Nat → Nat → Nat
  | 0, _ => 0
  | k + 1, x => iq_c8 (x % 256) + iq_D k (x / 256)
theorem iq_D_ok (k : Nat) : ∀ x, iq_D k x = iq_cN x.testBit (8 * k) := by
  induction k with
  | zero => intro x; rfl
  | succ k ih =>
    intro x
    have ha : x % 256 < 256 := Nat.mod_lt _ (by decide)
    have hx2 : x % 256 + 256 * (x / 256) = x := by omega
    rw [iq_D, ih, show 8 * (k + 1) = 8 + 8 * k by omega, iq_cN_add, (iq_c8v ⟨x % 256, ha⟩).1]
    congr 1
    · refine iq_cN_congr (fun i hi => ?_)
      have := iq_tbs (b := x / 256) ha i
      rw [hx2, if_pos hi] at this
      exact this.symm
    · refine iq_cN_congr (fun i hi => ?_)
      have := iq_tbs (b := x / 256) ha (8 + i)
      rw [hx2, if_neg (by omega)] at this
      rw [this]
      congr 1
      omega
theorem iq_fold8 {c0 c1 c2 c3 c4 c5 c6 t1 t2 t3 t4 t5 t6 t7 : Nat} (h0 : c0 ≤ 8) (h1 : c1 ≤ 8) (h2 : c2 ≤ 8) (h3 : c3 ≤ 8) (h4 : c4 ≤ 8) (h5 : c5 ≤ 8) (h6 : c6 ≤ 8) (h7 : t7 ≤ 8) (e1 : t1 = c1 + 256 * t2) (e2 : t2 = c2 + 256 * t3) (e3 : t3 = c3 + 256 * t4) (e4 : t4 = c4 + 256 * t5) (e5 : t5 = c5 + 256 * t6) (e6 : t6 = c6 + 256 * t7) :
    ∃ y1 y2 : Nat, (c0 + 256 * t1) + (c0 + 256 * t1) / 2 ^ 8 = y1 ∧ y1 + y1 / 2 ^ 16 = y2 ∧ y1 < 2 ^ 64 ∧ y2 < 2 ^ 64 ∧ y2 + y2 / 2 ^ 32 < 2 ^ 64 ∧ (y2 + y2 / 2 ^ 32) % 128 = c0 + (c1 + (c2 + (c3 + (c4 + (c5 + (c6 + (t7 + 0))))))) := by
  have b6 : t6 ≤ 2056 := by omega
  have b5 : t5 ≤ 526344 := by omega
  have b4 : t4 ≤ 134744072 := by omega
  have b3 : t3 ≤ 34494482440 := by omega
  have b2 : t2 ≤ 8830587504648 := by omega
  have b1 : t1 ≤ 2260630401189896 := by omega
  have d1 : (c0 + 256 * t1) / 2 ^ 8 = t1 := by omega
  have d2 : (c0 + 256 * t1) + t1 = (c0 + c1) + 256 * (c1 + c2) + 65536 * (t2 + t3) := by
    clear e3 e4 e5 e6 d1
    omega
  have d3 : ((c0 + c1) + 256 * (c1 + c2) + 65536 * (t2 + t3)) / 2 ^ 16 = t2 + t3 := by
    clear e1 e2 e3 e4 e5 e6 d1 d2
    omega
  have d4 : t2 + t3 = (c2 + c3) + 256 * (c3 + c4) + 65536 * (t4 + t5) := by
    clear e1 e5 e6 d1 d2 d3
    omega
  have d5 : t4 + t5 = (c4 + c5) + 256 * (c5 + c6) + 65536 * (t6 + t7) := by
    clear e1 e2 e3 d1 d2 d3 d4
    omega
  have d6 : t6 + t7 = (c6 + t7) + 256 * t7 := by
    clear e1 e2 e3 e4 e5 d1 d2 d3 d4 d5
    omega
  refine ⟨(c0 + c1) + 256 * (c1 + c2) + 65536 * (t2 + t3), ((c0 + c1) + 256 * (c1 + c2) + 65536 * (t2 + t3)) + (t2 + t3), by rw [d1, d2], by rw [d3], ?_, ?_, ?_, ?_⟩
  · clear e1 e2 e3 e4 e5 e6 d1 d2 d3 d4 d5 d6
    omega
  · clear e1 e2 e3 e4 e5 e6 d1 d2 d3 d4 d5 d6
    omega
  · clear e1 e2 e3 e4 e5 e6 d1 d2 d3 d4 d5 d6
    omega
  · have d7 : ((c0 + c1) + 256 * (c1 + c2) + 65536 * (t2 + t3)) + (t2 + t3) = ((c0 + c1 + c2 + c3) + 256 * (c1 + c2 + c3 + c4)) + 65536 * ((t2 + t3) + (t4 + t5)) := by
      generalize t2 + t3 = u2 at *
      generalize t4 + t5 = u4 at *
      clear e1 e2 e3 e4 e5 e6 d1 d2 d3 d5 d6
      omega
    have d8 : (t2 + t3) + (t4 + t5) = (c2 + c3 + c4 + c5) + 256 * (c3 + c4 + c5 + c6) + 65536 * ((t4 + t5) + (t6 + t7)) := by
      generalize t2 + t3 = u2 at *
      generalize t4 + t5 = u4 at *
      generalize t6 + t7 = u6 at *
      clear e1 e2 e3 e4 e5 e6 d1 d2 d3 d6 d7
      omega
    have d9 : ((c0 + c1) + 256 * (c1 + c2) + 65536 * (t2 + t3)) + (t2 + t3) = (((c0 + c1 + c2 + c3) + 256 * (c1 + c2 + c3 + c4)) + 65536 * ((c2 + c3 + c4 + c5) + 256 * (c3 + c4 + c5 + c6))) + 4294967296 * ((t4 + t5) + (t6 + t7)) := by
      rw [d7, d8]
      generalize (t4 + t5) + (t6 + t7) = v
      omega
    have d10 : (t4 + t5) + (t6 + t7) = (c4 + c5 + c6 + t7) + 256 * (c5 + c6 + t7 + 256 * (t6 + t7)) := by
      generalize t4 + t5 = u4 at *
      generalize t6 + t7 = u6 at *
      clear e1 e2 e3 e4 e5 e6 d1 d2 d3 d4 d7 d8 d9
      omega
    rw [d9]
    generalize hv : (t4 + t5) + (t6 + t7) = v at *
    have d11 : ((((c0 + c1 + c2 + c3) + 256 * (c1 + c2 + c3 + c4)) + 65536 * ((c2 + c3 + c4 + c5) + 256 * (c3 + c4 + c5 + c6))) + 4294967296 * v) / 2 ^ 32 = v := by
      clear e1 e2 e3 e4 e5 e6 d1 d2 d3 d4 d5 d6 d7 d8 d9 d10 hv
      omega
    rw [d11]
    generalize t6 + t7 = u6 at *
    clear e1 e2 e3 e4 e5 e6 d1 d2 d3 d4 d5 d6 d7 d8 d9 d11 hv b1 b2 b3 b4 b5 b6
    omega
theorem iq_S8 (x : Nat) : ∃ y1 y2 : Nat, iq_S 8 x + iq_S 8 x / 2 ^ 8 = y1 ∧ y1 + y1 / 2 ^ 16 = y2 ∧ y1 < 2 ^ 64 ∧ y2 < 2 ^ 64 ∧ y2 + y2 / 2 ^ 32 < 2 ^ 64 ∧ (y2 + y2 / 2 ^ 32) % 128 = iq_D 8 x := by
  have hc : ∀ y : Nat, iq_c8 (y % 256) ≤ 8 := fun y => (iq_c8v ⟨y % 256, Nat.mod_lt _ (by decide)⟩).2
  have hs : ∀ y, iq_S 1 y = iq_c8 (y % 256) := fun y => rfl
  have hd : ∀ y, iq_D 1 y = iq_c8 (y % 256) + 0 := fun y => rfl
  have := iq_fold8 (hc x) (hc (x / 256)) (hc (x / 256 / 256)) (hc (x / 256 / 256 / 256)) (hc (x / 256 / 256 / 256 / 256)) (hc (x / 256 / 256 / 256 / 256 / 256)) (hc (x / 256 / 256 / 256 / 256 / 256 / 256)) (hc (x / 256 / 256 / 256 / 256 / 256 / 256 / 256)) (t1 := iq_S 7 (x / 256)) (t2 := iq_S 6 (x / 256 / 256)) (t3 := iq_S 5 (x / 256 / 256 / 256)) (t4 := iq_S 4 (x / 256 / 256 / 256 / 256)) (t5 := iq_S 3 (x / 256 / 256 / 256 / 256 / 256)) (t6 := iq_S 2 (x / 256 / 256 / 256 / 256 / 256 / 256)) rfl rfl rfl rfl rfl rfl
  exact this
theorem iq_cnN (f : Int → Bool) (n : Nat) : iq_cn f n = (iq_cN (fun i => f i) n : Nat) := by
  induction n with
  | zero => rfl
  | succ n ih =>
    rw [iq_cn, iq_cN, ih]
    split <;> simp
theorem iq_pcv (x : Int64) : (ij_pc x).toInt = iq_cn (iq_tb x) 64 := by
  unfold ij_pc
  rw [iq_and127]
  have hX := iq_lt64 x
  obtain ⟨s1, s2⟩ := iq_fS 8 _ hX
  have s3 := iq_fB 8 _ hX
  have q1 := iq_p1 x
  have q2 : (ij_pc2 (ij_pc1 x)).toBitVec.toNat = iq_f2 8 (iq_f1 8 x.toBitVec.toNat) := by
    rw [iq_p2 _ (by rw [q1]; exact Nat.lt_of_le_of_lt (Nat.le_add_right _ _) s3), q1]
  have q3 : (ij_pc3 (ij_pc2 (ij_pc1 x))).toBitVec.toNat = iq_S 8 x.toBitVec.toNat := by
    rw [iq_p3 _ (by rw [q2]; exact s3), q2, s1]
  obtain ⟨y1, y2, u1, u2, t1, t2, t3, t4⟩ := iq_S8 x.toBitVec.toNat
  generalize ij_pc3 (ij_pc2 (ij_pc1 x)) = y at q3 ⊢
  rw [← q3] at u1
  have q4 := iq_p4 (x := y) (k := 8) (n := 8) (by decide) (by decide +kernel) (by rw [u1]; exact t1)
  rw [u1] at q4
  have q5 := iq_p4 (x := ij_pc4 y 8) (k := 16) (n := 16) (by decide) (by decide +kernel) (by rw [q4, u2]; exact t2)
  rw [q4, u2] at q5
  have q6 := iq_p4 (x := ij_pc4 (ij_pc4 y 8) 16) (k := 32) (n := 32) (by decide) (by decide +kernel) (by rw [q5]; exact t3)
  rw [q5] at q6
  rw [q6]
  rw [t4, iq_D_ok, iq_cnN]
  congr 1
theorem sp88 {N : Nat} {xs : Nat → Int32} {Q : iq_T} {a0 : Int64} {g : iq_I} {l : iq_J} (q : Q (some (iq_i (iq_cn (iq_tb a0) 64))) g l) : iq_P N xs 88 0 [some (iq_l a0), none] [] g l Q := by
  refine s_bitCount a0 ⟨some (iq_i (iq_cn (iq_tb a0) 64)), g, l, ?_, rfl, q⟩
  show some (Value.int (ij_pc a0)) = some (Value.int (Int32.ofInt (iq_cn (iq_tb a0) 64)))
  rw [← iq_pcv, Int32.ofInt_toInt]
