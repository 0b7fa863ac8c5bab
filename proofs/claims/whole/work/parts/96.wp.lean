/-! way: the fewest that are still to go, and the first row by it. -/
def sf_bt (u k : Int) : Bool := Nat.testBit u.toNat k.toNat
def sf_or (u k : Int) : Int := ((u.toNat ||| 2 ^ k.toNat : Nat) : Int)
theorem sf_b1 : ∀ u : Fin 128, ∀ k : Fin 7, iq_or (u.val : Int) (iq_shl 1 (k.val : Int)) = ((u.val ||| 2 ^ k.val : Nat) : Int) := by decide +kernel
theorem sf_b2 : ∀ u : Fin 128, ∀ k : Fin 7, iq_tb (iq_i2l (u.val : Int)) (k.val : Int) = Nat.testBit u.val k.val := by decide +kernel
theorem sf_b3 : ∀ u : Fin 128, ∀ k : Fin 7, Nat.testBit u.val k.val = false → iq_and ((u.val ||| 2 ^ k.val : Nat) : Int) (iq_xor (iq_shl 1 (k.val : Int)) (-1)) = (u.val : Int) := by decide +kernel
theorem sf_b4 : ∀ u : Fin 128, iq_and (u.val : Int) (iq_xor 0 (-1)) = (u.val : Int) := by decide +kernel
theorem sf_b5 : ∀ u : Fin 128, ∀ k : Fin 7, iq_and (iq_shr (u.val : Int) (k.val : Int)) 1 = if Nat.testBit u.val k.val = true then 1 else 0 := by decide +kernel
theorem sf_b6 : ∀ u : Fin 128, ∀ k : Fin 7, Nat.testBit u.val k.val = false → u.val < (u.val ||| 2 ^ k.val) := by decide +kernel
section WB
variable {u k : Int} (hu : 0 ≤ u ∧ u < 128) (hk : 0 ≤ k ∧ k < 7)
theorem sf_c1 (hu : 0 ≤ u ∧ u < 128) (hk : 0 ≤ k ∧ k < 7) : iq_or u (iq_shl 1 k) = sf_or u k := by
  have := sf_b1 ⟨u.toNat, by omega⟩ ⟨k.toNat, by omega⟩
  simp only [Int.toNat_of_nonneg hu.1, Int.toNat_of_nonneg hk.1] at this
  exact this
theorem sf_c2 (hu : 0 ≤ u ∧ u < 128) (hk : 0 ≤ k ∧ k < 7) : iq_tb (iq_i2l u) k = sf_bt u k := by
  have := sf_b2 ⟨u.toNat, by omega⟩ ⟨k.toNat, by omega⟩
  simp only [Int.toNat_of_nonneg hu.1, Int.toNat_of_nonneg hk.1] at this
  exact this
theorem sf_c3 (hu : 0 ≤ u ∧ u < 128) (hk : 0 ≤ k ∧ k < 7) (h : sf_bt u k = false) : iq_and (sf_or u k) (iq_xor (iq_shl 1 k) (-1)) = u := by
  have := sf_b3 ⟨u.toNat, by omega⟩ ⟨k.toNat, by omega⟩ h
  simp only [Int.toNat_of_nonneg hu.1, Int.toNat_of_nonneg hk.1] at this
  exact this
theorem sf_c4 (hu : 0 ≤ u ∧ u < 128) : iq_and u (iq_xor 0 (-1)) = u := by
  have := sf_b4 ⟨u.toNat, by omega⟩
  simp only [Int.toNat_of_nonneg hu.1] at this
  exact this
theorem sf_c5 (hu : 0 ≤ u ∧ u < 128) (hk : 0 ≤ k ∧ k < 7) : iq_and (iq_shr u k) 1 = if sf_bt u k = true then 1 else 0 := by
  have := sf_b5 ⟨u.toNat, by omega⟩ ⟨k.toNat, by omega⟩
  simp only [Int.toNat_of_nonneg hu.1, Int.toNat_of_nonneg hk.1] at this
  exact this
theorem sf_c6 (hu : 0 ≤ u ∧ u < 128) (hk : 0 ≤ k ∧ k < 7) (h : sf_bt u k = false) : u < sf_or u k := by
  have := sf_b6 ⟨u.toNat, by omega⟩ ⟨k.toNat, by omega⟩ h
  unfold sf_or
  have e : ((⟨u.toNat, by omega⟩ : Fin 128).val ||| 2 ^ (⟨k.toNat, by omega⟩ : Fin 7).val) = (u.toNat ||| 2 ^ k.toNat) := rfl
  rw [e] at this
  have e2 : (⟨u.toNat, by omega⟩ : Fin 128).val = u.toNat := rfl
  rw [e2] at this
  omega
theorem sf_or_lt {m : Nat} (hu : 0 ≤ u ∧ u < 2 ^ m) (hk : 0 ≤ k ∧ k < m) : sf_or u k < 2 ^ m ∧ 0 ≤ sf_or u k := by
  unfold sf_or
  have h1 : u.toNat < 2 ^ m := by
    have : ((u.toNat : Nat) : Int) < ((2 ^ m : Nat) : Int) := by
      rw [Int.toNat_of_nonneg hu.1]
      have : ((2 ^ m : Nat) : Int) = (2 : Int) ^ m := by norm_cast
      omega
    omega
  have h2 : 2 ^ k.toNat < 2 ^ m := Nat.pow_lt_pow_right (by decide) (by omega)
  have h3 := Nat.or_lt_two_pow h1 h2
  have e : ((2 ^ m : Nat) : Int) = (2 : Int) ^ m := by norm_cast
  constructor
  · omega
  · omega
theorem sf_bt_or (hu : 0 ≤ u) (hk : 0 ≤ k) {t : Int} (ht : 0 ≤ t) : sf_bt (sf_or u k) t = (sf_bt u t || decide (k = t)) := by
  unfold sf_bt sf_or
  rw [Int.toNat_natCast, Nat.testBit_or, Nat.testBit_two_pow]
  congr 1
  by_cases c : k = t
  · simp [c]
  · have : ¬ k.toNat = t.toNat := by omega
    simp [c, this]
end WB
theorem sf_p2 {m : Nat} (h : m ≤ 7) : (2 : Int) ^ m ≤ 128 ∧ 1 ≤ (2 : Int) ^ m := by
  have : m = 0 ∨ m = 1 ∨ m = 2 ∨ m = 3 ∨ m = 4 ∨ m = 5 ∨ m = 6 ∨ m = 7 := by omega
  rcases this with e | e | e | e | e | e | e | e <;> subst e <;> decide
theorem sf_p2s {m : Nat} (h : m ≤ 7) : iq_shl 1 m - 1 = (2 : Int) ^ m - 1 := by
  have : m = 0 ∨ m = 1 ∨ m = 2 ∨ m = 3 ∨ m = 4 ∨ m = 5 ∨ m = 6 ∨ m = 7 := by omega
  rcases this with e | e | e | e | e | e | e | e <;> subst e <;> decide +kernel
def sf_dd (W : Int → Int) (p a x : Int) : Int := min (((W a - W x).natAbs : Nat) : Int) (p - ((W a - W x).natAbs : Nat))
theorem sf_ddR {W : Int → Int} {p a x : Int} (h1 : 0 ≤ W a ∧ W a < p) (h2 : 0 ≤ W x ∧ W x < p) (hp : p ≤ 60) : 0 ≤ sf_dd W p a x ∧ sf_dd W p a x ≤ 60 := by
  unfold sf_dd
  omega
/-- what the fewest are, at one place -/
def sf_R1 (m : Nat) (d T : Int → Int → Int) (u a : Int) : Prop := (0 ≤ T u a ∧ T u a ≤ 60 * (128 - u)) ∧ ((∀ x : Int, 0 ≤ x → x < m → sf_bt u x = true) → T u a = 0) ∧ (∀ x : Int, 0 ≤ x → x < m → sf_bt u x = false → T u a ≤ d a x + T (sf_or u x) x) ∧ ((∃ x : Int, 0 ≤ x ∧ x < m ∧ sf_bt u x = false) → ∃ x : Int, 0 ≤ x ∧ x < m ∧ sf_bt u x = false ∧ d a x + T (sf_or u x) x = T u a)
def sf_RC (m : Nat) (d T : Int → Int → Int) : Prop := ∀ u a : Int, 0 < u → u < 2 ^ m → 0 ≤ a → a < m → sf_R1 m d T u a
theorem sf_R1.congr {m : Nat} (hm : m ≤ 7) {d T T' : Int → Int → Int} {u a : Int} (hu : 0 ≤ u ∧ u < 2 ^ m) (h : sf_R1 m d T u a) (e0 : T' u a = T u a) (e : ∀ v x : Int, u < v → 0 ≤ x → x < m → T' v x = T v x) : sf_R1 m d T' u a := by
  have p := sf_p2 hm
  obtain ⟨h1, h2, h3, h4⟩ := h
  have ex : ∀ x : Int, 0 ≤ x → x < m → sf_bt u x = false → T' (sf_or u x) x = T (sf_or u x) x := fun x y1 y2 y3 => e _ _ (sf_c6 (by omega) (by omega) y3) y1 y2
  refine ⟨by rw [e0]; exact h1, fun z => by rw [e0]; exact h2 z, fun x y1 y2 y3 => by rw [e0, ex x y1 y2 y3]; exact h3 x y1 y2 y3, fun z => ?_⟩
  obtain ⟨x, y1, y2, y3, y4⟩ := h4 z
  exact ⟨x, y1, y2, y3, by rw [ex x y1 y2 y3, e0]; exact y4⟩
def sf_wx (m : Nat) (d T : Int → Int → Int) (u a : Int) : Int := iq_nth (fun x => !sf_bt u x && decide (d a x + T (sf_or u x) x = T u a)) m 0 0
def sf_wg (m : Nat) (d T : Int → Int → Int) : Nat → Int → Int → Int
  | 0, _, a => a
  | k + 1, u, a => sf_wg m d T k (sf_or u (sf_wx m d T u a)) (sf_wx m d T u a)
theorem sf_nth0 {f : Int → Bool} (n : Nat) : ∀ (i x : Int), i ≤ x → x < i + n → f x = true → (∀ y, i ≤ y → y < x → f y = false) → iq_nth f n i 0 = x := by
  induction n with
  | zero => intro i x h1 h2 _ _; omega
  | succ n ih =>
    intro i x h1 h2 h3 h4
    rw [iq_nth]
    by_cases c : i = x
    · subst c
      rw [if_pos h3]
      simp
    · rw [if_neg (by rw [h4 i (by omega) (by omega)]; decide)]
      exact ih (i + 1) x (by omega) (by omega) h3 (fun y y1 y2 => h4 y (by omega) y2)
/-- the first that does is the one taken -/
theorem sf_wxe {m : Nat} {d T : Int → Int → Int} {u a x : Int} (h1 : 0 ≤ x ∧ x < m) (h2 : sf_bt u x = false) (h3 : d a x + T (sf_or u x) x = T u a) (h4 : ∀ y, 0 ≤ y → y < x → sf_bt u y = false → ¬ d a y + T (sf_or u y) y = T u a) : sf_wx m d T u a = x := by
  unfold sf_wx
  refine sf_nth0 m 0 x h1.1 (by omega) (by simp [h2, h3]) (fun y y1 y2 => ?_)
  rcases hb : sf_bt u y with _ | _
  · have := h4 y y1 y2 hb
    simp [this]
  · simp
theorem sf_wxs {m : Nat} {d T : Int → Int → Int} {u a : Int} (h : sf_R1 m d T u a) (hc : ∃ x : Int, 0 ≤ x ∧ x < m ∧ sf_bt u x = false) : (0 ≤ sf_wx m d T u a ∧ sf_wx m d T u a < m) ∧ sf_bt u (sf_wx m d T u a) = false ∧ d a (sf_wx m d T u a) + T (sf_or u (sf_wx m d T u a)) (sf_wx m d T u a) = T u a ∧ (∀ y, 0 ≤ y → y < sf_wx m d T u a → sf_bt u y = false → ¬ d a y + T (sf_or u y) y = T u a) := by
  obtain ⟨x, y1, y2, y3, y4⟩ := h.2.2.2 hc
  have main : ∀ (n : Nat) (x : Int), 0 ≤ x → x < n → x < m → sf_bt u x = false → d a x + T (sf_or u x) x = T u a → ∃ z : Int, 0 ≤ z ∧ z < m ∧ sf_bt u z = false ∧ d a z + T (sf_or u z) z = T u a ∧ (∀ y : Int, 0 ≤ y → y < z → sf_bt u y = false → ¬ d a y + T (sf_or u y) y = T u a) := by
    intro n
    induction n with
    | zero => intro x h1 h2; omega
    | succ n ih =>
      intro x h1 h2 h3 h4 h5
      by_cases c : ∃ y : Int, 0 ≤ y ∧ y < x ∧ sf_bt u y = false ∧ d a y + T (sf_or u y) y = T u a
      · obtain ⟨y, c1, c2, c3, c4⟩ := c
        exact ih y c1 (by omega) (by omega) c3 c4
      · exact ⟨x, h1, h3, h4, h5, fun y k1 k2 k3 k4 => c ⟨y, k1, k2, k3, k4⟩⟩
  obtain ⟨z, z1, z2, z3, z4, z5⟩ := main (x.toNat + 1) x y1 (by omega) y2 y3 y4
  rw [sf_wxe ⟨z1, z2⟩ z3 z4 z5]
  exact ⟨⟨z1, z2⟩, z3, z4, z5⟩
/-- how many are left -/
theorem sf_left {m : Nat} {u : Int} (h : 0 < iq_cn (fun x => !sf_bt u x) m) : ∃ x : Int, 0 ≤ x ∧ x < m ∧ sf_bt u x = false := by
  obtain ⟨t, h1, h2, h3⟩ := iq_cn_sur _ m 0 (by omega) h
  exact ⟨t, by omega, by omega, by simpa using h2⟩
theorem sf_left0 {m : Nat} {u : Int} (h : iq_cn (fun x => !sf_bt u x) m = 0) : ∀ x : Int, 0 ≤ x → x < m → sf_bt u x = true := by
  intro x h1 h2
  rcases hb : sf_bt u x with _ | _
  · have := iq_cn_pos (f := fun x => !sf_bt u x) (n := m) (t := x.toNat) (by omega) (by
      rw [show ((x.toNat : Nat) : Int) = x by omega]
      simp [hb])
    omega
  · rfl
theorem sf_leftS {m : Nat} {u x : Int} (hu : 0 ≤ u) (hx : 0 ≤ x ∧ x < m) (h : sf_bt u x = false) : iq_cn (fun y => !sf_bt (sf_or u x) y) m + 1 = iq_cn (fun y => !sf_bt u y) m := by
  have e := iq_cn_or_eq (f := fun y => !sf_bt (sf_or u x) y) (a := x) (n := m) hx.1 hx.2
  rw [if_neg (by rw [sf_bt_or hu hx.1 hx.1]; simp)] at e
  rw [← e]
  refine iq_cn_congr (fun i a b => ?_)
  try dsimp only
  rw [sf_bt_or hu hx.1 a]
  by_cases c : x = i
  · subst c; simp [h]
  · simp [c]
