/-! Sets as bits, comparisons of longs, small facts. -/
def iq_tb (x : Int64) (t : Int) : Bool := decide (0 ≤ t) && x.toBitVec.getLsbD t.toNat
theorem iq_lcR (x y : Int64) : -2147483648 ≤ iq_lc x y ∧ iq_lc x y ≤ 2147483647 := by
  unfold iq_lc
  exact ⟨Int32.le_toInt _, Int32.toInt_le _⟩
theorem iq_lcv (x y : Int64) : iq_lc x y = if y.toInt < x.toInt then 1 else if x.toInt = y.toInt then 0 else -1 := by
  unfold iq_lc lg_cmp
  by_cases h1 : x > y
  · have h2 : y.toInt < x.toInt := Int64.lt_iff_toInt_lt.mp h1
    rw [if_pos h1, if_pos h2]; rfl
  · have h2 : ¬ y.toInt < x.toInt := fun h => h1 (Int64.lt_iff_toInt_lt.mpr h)
    rw [if_neg h1, if_neg h2]
    by_cases h3 : x = y
    · rw [if_pos h3, if_pos (by rw [h3])]; rfl
    · rw [if_neg h3, if_neg (fun h => h3 (Int64.toInt_inj.mp h))]; rfl
theorem iq_lc0 {x y : Int64} : iq_lc x y = 0 ↔ x = y := by
  rw [iq_lcv]
  constructor
  · intro h
    split at h
    · omega
    · split at h
      · next h2 => exact Int64.toInt_inj.mp h2
      · omega
  · intro h; subst h; simp
theorem iq_lclt {x y : Int64} : iq_lc x y < 0 ↔ x.toInt < y.toInt := by
  rw [iq_lcv]; split
  · omega
  · split <;> omega
theorem iq_lcgt {x y : Int64} : 0 < iq_lc x y ↔ y.toInt < x.toInt := by
  rw [iq_lcv]; split
  · omega
  · split <;> omega
theorem iq_lcle {x y : Int64} : iq_lc x y ≤ 0 ↔ x.toInt ≤ y.toInt := by
  rw [iq_lcv]; split
  · omega
  · split <;> omega
theorem iq_lcge {x y : Int64} : 0 ≤ iq_lc x y ↔ y.toInt ≤ x.toInt := by
  rw [iq_lcv]; split
  · omega
  · split <;> omega
theorem iq_i2lv {x : Int} (h1 : -2147483648 ≤ x) (h2 : x ≤ 2147483647) : (iq_i2l x).toInt = x := by
  unfold iq_i2l
  rw [Int32.toInt_toInt64, Int32.toInt_ofInt_of_le (by omega) (by omega)]
theorem iq_i2le {x : Int} (h1 : -2147483648 ≤ x) (h2 : x ≤ 2147483647) : iq_i2l x = Int64.ofInt x := by
  unfold iq_i2l
  exact Int32.toInt64_ofInt h1 h2
theorem iq_l2iv {x : Int64} (h1 : -2147483648 ≤ x.toInt) (h2 : x.toInt ≤ 2147483647) : iq_l2i x = x.toInt := by
  unfold iq_l2i
  rw [Int64.toInt_toInt32]
  exact Int.bmod_eq_of_le (by omega) (by omega)
theorem iq_xorn {x y : Int} (h1 : -2147483648 ≤ x) (h2 : x ≤ 2147483647) (h3 : 0 ≤ y) (h4 : y ≤ 2147483647) : iq_xor x y < 0 ↔ x < 0 := by
  unfold iq_xor
  have e1 : ∀ z : Int32, z.toInt < 0 ↔ z.toBitVec.msb = true := by
    intro z
    rw [BitVec.msb_eq_toInt]
    simp
  have e2 := e1 (Int32.ofInt x)
  have e3 := e1 (Int32.ofInt y)
  rw [Int32.toInt_ofInt_of_le (by omega) (by omega)] at e2 e3
  rw [e1, Int32.toBitVec_xor, BitVec.msb_xor]
  have e4 : (Int32.ofInt y).toBitVec.msb = false := by
    rcases hb : (Int32.ofInt y).toBitVec.msb with _ | _
    · rfl
    · exact absurd (e3.mpr hb) (by omega)
  rw [e4, e2]
  simp
theorem iq_xorR (x y : Int) : -2147483648 ≤ iq_xor x y ∧ iq_xor x y ≤ 2147483647 := by
  unfold iq_xor
  exact ⟨Int32.le_toInt _, Int32.toInt_le _⟩
theorem iq_tmd {x y : Int} (h : 0 < y) : (0 ≤ x → Int.tmod x y = x % y) ∧ (x < 0 → Int.tmod x y = 0 → x % y = 0) ∧ (x < 0 → ¬ Int.tmod x y = 0 → Int.tmod x y + y = x % y) ∧ -y < Int.tmod x y ∧ Int.tmod x y < y := by
  have a1 := Int.emod_nonneg x (show y ≠ 0 by omega)
  have a2 := Int.emod_lt_of_pos x h
  have a3 : Int.tmod x y = if 0 ≤ x ∨ y ∣ x then x % y else x % y - (y.natAbs : Int) := by
    rw [Int.tmod_eq_emod]; split <;> simp
  have a4 : (y.natAbs : Int) = y := by omega
  rw [a4] at a3
  have a5 : y ∣ x ↔ x % y = 0 := Int.dvd_iff_emod_eq_zero
  by_cases c1 : 0 ≤ x
  · rw [if_pos (.inl c1)] at a3
    refine ⟨fun _ => a3, fun h => by omega, fun h => by omega, by omega, by omega⟩
  · by_cases c2 : y ∣ x
    · rw [if_pos (.inr c2)] at a3
      have := a5.mp c2
      refine ⟨fun _ => a3, fun _ _ => this, fun _ h => by omega, by omega, by omega⟩
    · rw [if_neg (by rintro (h | h) <;> contradiction)] at a3
      have : ¬ x % y = 0 := fun h => c2 (a5.mpr h)
      refine ⟨fun h => by omega, fun _ h => by omega, fun _ _ => by omega, by omega, by omega⟩
theorem iq_am : ∀ n : Fin 64, ((Int32.ofInt (n.val : Int)).toInt64.toUInt64 &&& Int64.toUInt64 63).toBitVec % 64 = BitVec.ofNat 64 n.val := by decide +kernel
theorem iq_al : ∀ n : Fin 64, (((Int32.ofInt (n.val : Int)).toInt64 &&& 63).toBitVec).smod 64 = BitVec.ofNat 64 n.val := by decide +kernel
theorem iq_lsr_bv {x : Int64} {n : Int} (h1 : 0 ≤ n) (h2 : n < 64) : (iq_lsr x n).toBitVec = x.toBitVec >>> n.toNat := by
  obtain ⟨k, rfl⟩ := Int.eq_ofNat_of_zero_le h1
  have hk : k < 64 := by omega
  have := iq_am ⟨k, hk⟩
  unfold iq_lsr
  show (x.toUInt64 >>> _).toBitVec = _
  rw [UInt64.toBitVec_shiftRight, show (64 : BitVec 64) = 64#64 from rfl] at *
  rw [this]
  simp
  congr 1
  omega
theorem iq_lsl_bv {x : Int64} {n : Int} (h1 : 0 ≤ n) (h2 : n < 64) : (iq_lsl x n).toBitVec = x.toBitVec <<< n.toNat := by
  obtain ⟨k, rfl⟩ := Int.eq_ofNat_of_zero_le h1
  have hk : k < 64 := by omega
  have := iq_al ⟨k, hk⟩
  unfold iq_lsl
  rw [Int64.toBitVec_shiftLeft]
  rw [this]
  simp
  congr 1
  omega
theorem iq_tb_lsr {x : Int64} {n t : Int} (h1 : 0 ≤ n) (h2 : n < 64) (h3 : 0 ≤ t) : iq_tb (iq_lsr x n) t = iq_tb x (t + n) := by
  unfold iq_tb
  rw [iq_lsr_bv h1 h2, BitVec.getLsbD_ushiftRight]
  have : n.toNat + t.toNat = (t + n).toNat := by omega
  rw [this]
  simp [h3, show 0 ≤ t + n by omega]
theorem iq_tb_lsl {x : Int64} {n t : Int} (h1 : 0 ≤ n) (h2 : n < 64) : iq_tb (iq_lsl x n) t = (decide (t < 64) && iq_tb x (t - n)) := by
  unfold iq_tb
  rw [iq_lsl_bv h1 h2, BitVec.getLsbD_shiftLeft]
  by_cases c : 0 ≤ t
  · by_cases c2 : n ≤ t
    · have e1 : t.toNat - n.toNat = (t - n).toNat := by omega
      have e2 : ¬ t.toNat < n.toNat := by omega
      have e3 : (t.toNat < 64) ↔ t < 64 := by omega
      simp [c, e1, e2, e3, c2]
    · have e2 : t.toNat < n.toNat := by omega
      simp [e2, c2]
  · simp [c, show ¬ n ≤ t by omega]
theorem iq_tb_or (x y : Int64) (t : Int) : iq_tb (x ||| y) t = (iq_tb x t || iq_tb y t) := by
  unfold iq_tb
  rw [Int64.toBitVec_or, BitVec.getLsbD_or]
  by_cases c : 0 ≤ t <;> simp [c]
theorem iq_tb_and (x y : Int64) (t : Int) : iq_tb (x &&& y) t = (iq_tb x t && iq_tb y t) := by
  unfold iq_tb
  rw [Int64.toBitVec_and, BitVec.getLsbD_and]
  by_cases c : 0 ≤ t <;> simp [c]
theorem iq_tb_xor (x y : Int64) (t : Int) : iq_tb (x ^^^ y) t = (iq_tb x t != iq_tb y t) := by
  unfold iq_tb
  rw [Int64.toBitVec_xor, BitVec.getLsbD_xor]
  by_cases c : 0 ≤ t <;> simp [c]
theorem iq_tb_0 (t : Int) : iq_tb 0 t = false := by
  unfold iq_tb
  simp
theorem iq_tb_m1 {t : Int} (h1 : 0 ≤ t) (h2 : t < 64) : iq_tb (-1) t = true := by
  unfold iq_tb
  have : ∀ n : Fin 64, (-1 : Int64).toBitVec.getLsbD n.val = true := by decide +kernel
  have := this ⟨t.toNat, by omega⟩
  rw [this]
  simp [h1]
theorem iq_tb_neg {x : Int64} {t : Int} (h : t < 0) : iq_tb x t = false := by
  unfold iq_tb
  simp [show ¬ 0 ≤ t by omega]
theorem iq_tb_ge {x : Int64} {t : Int} (h : 64 ≤ t) : iq_tb x t = false := by
  unfold iq_tb
  rw [BitVec.getLsbD_of_ge _ _ (by omega)]
  simp
theorem iq_tb_1 (t : Int) : iq_tb 1 t = decide (t = 0) := by
  by_cases c1 : t < 0
  · rw [iq_tb_neg c1]; simp; omega
  · by_cases c2 : 64 ≤ t
    · rw [iq_tb_ge c2]; simp; omega
    · have : ∀ n : Fin 64, (1 : Int64).toBitVec.getLsbD n.val = decide (n.val = 0) := by decide +kernel
      have := this ⟨t.toNat, by omega⟩
      unfold iq_tb
      rw [this]
      have e : (t.toNat = 0) ↔ t = 0 := by omega
      simp [e]; omega
theorem iq_tb_of {n : Int} (h1 : 0 ≤ n) (h2 : n < 64) (t : Int) : iq_tb (iq_lsl 1 n) t = decide (t = n) := by
  rw [iq_tb_lsl h1 h2, iq_tb_1]
  by_cases c : t = n
  · simp [c, h2]
  · have : ¬ t - n = 0 := by omega
    simp [c, this]
theorem iq_tb_below {n : Int} (h1 : 0 ≤ n) (h2 : n < 64) (t : Int) : iq_tb (iq_lsl 1 n - 1) t = (decide (0 ≤ t) && decide (t < n)) := by
  by_cases c1 : t < 0
  · rw [iq_tb_neg c1]; simp; omega
  · by_cases c2 : 64 ≤ t
    · rw [iq_tb_ge c2]; simp; omega
    · have : ∀ n : Fin 64, ∀ i : Fin 64, (iq_lsl 1 (n.val : Int) - 1).toBitVec.getLsbD i.val = decide (i.val < n.val) := by decide +kernel
      have := this ⟨n.toNat, by omega⟩ ⟨t.toNat, by omega⟩
      unfold iq_tb
      dsimp only at this
      rw [Int.toNat_of_nonneg h1] at this
      rw [this]
      have e : (t.toNat < n.toNat) ↔ t < n := by omega
      simp [e]
theorem iq_tb_ext {x y : Int64} (h : ∀ t, 0 ≤ t → t < 64 → iq_tb x t = iq_tb y t) : x = y := by
  apply Int64.toBitVec_inj.mp
  apply BitVec.eq_of_getLsbD_eq
  intro i hi
  have := h i (by omega) (by omega)
  unfold iq_tb at this
  simpa using this
theorem iq_ne0 {x : Int64} : ¬ x = 0 ↔ ∃ t, 0 ≤ t ∧ t < 64 ∧ iq_tb x t = true := by
  constructor
  · intro h
    refine Classical.byContradiction (fun hn => h (iq_tb_ext (fun t h1 h2 => ?_)))
    rw [iq_tb_0]
    rcases hb : iq_tb x t with _ | _
    · rfl
    · exact (hn ⟨t, h1, h2, hb⟩).elim
  · rintro ⟨t, -, -, h⟩ e
    rw [e, iq_tb_0] at h
    cases h
/-! how many of the first n -/
def iq_cn (f : Int → Bool) : Nat → Int
  | 0 => 0
  | n + 1 => iq_cn f n + (if f n then 1 else 0)
