/-! Counting, and rings of tones. -/
theorem iq_cn_nonneg (f : Int → Bool) (n : Nat) : 0 ≤ iq_cn f n ∧ iq_cn f n ≤ n := by
  induction n with
  | zero => rw [iq_cn]; omega
  | succ n ih =>
    rw [iq_cn]
    split <;> omega
theorem iq_cn_mono (f : Int → Bool) {a b : Nat} (h : a ≤ b) : iq_cn f a ≤ iq_cn f b := by
  induction b with
  | zero => rw [show a = 0 by omega]; exact Int.le_refl _
  | succ b ih =>
    by_cases c : a = b + 1
    · rw [c]; exact Int.le_refl _
    · have := ih (by omega)
      rw [iq_cn]
      split <;> omega
theorem iq_cn_congr {f h : Int → Bool} {n : Nat} (e : ∀ i : Int, 0 ≤ i → i < n → f i = h i) : iq_cn f n = iq_cn h n := by
  induction n with
  | zero => rfl
  | succ n ih =>
    rw [iq_cn, iq_cn, ih (fun i h1 h2 => e i h1 (by omega)), e n (by omega) (by omega)]
theorem iq_cn_ext {f : Int → Bool} {a b : Nat} (h : a ≤ b) (e : ∀ i : Int, a ≤ i → i < b → f i = false) : iq_cn f b = iq_cn f a := by
  induction b with
  | zero => rw [show a = 0 by omega]
  | succ b ih =>
    by_cases c : a = b + 1
    · rw [c]
    · rw [iq_cn, ih (by omega) (fun i h1 h2 => e i h1 (by omega)), e b (by omega) (by omega)]
      simp
theorem iq_cn_lt {f : Int → Bool} {a b : Nat} (h : a < b) (e : f a = true) : iq_cn f a < iq_cn f b := by
  have := iq_cn_mono f (show a + 1 ≤ b by omega)
  rw [iq_cn, if_pos e] at this
  omega
/-- every number below the count is of one -/
theorem iq_cn_sur (f : Int → Bool) (n : Nat) : ∀ d : Int, 0 ≤ d → d < iq_cn f n → ∃ t : Nat, t < n ∧ f t = true ∧ iq_cn f t = d := by
  induction n with
  | zero => intro d h1 h2; rw [iq_cn] at h2; omega
  | succ n ih =>
    intro d h1 h2
    by_cases c : d < iq_cn f n
    · obtain ⟨t, a, b, e⟩ := ih d h1 c
      exact ⟨t, by omega, b, e⟩
    · rw [iq_cn] at h2
      by_cases hf : f n = true
      · rw [if_pos hf] at h2
        exact ⟨n, by omega, hf, by omega⟩
      · rw [if_neg hf] at h2
        omega
theorem iq_cn_inj {f : Int → Bool} {a b : Nat} (h1 : f a = true) (h2 : f b = true) (e : iq_cn f a = iq_cn f b) : a = b := by
  by_cases c : a < b
  · have := iq_cn_lt c h1; omega
  · by_cases c2 : b < a
    · have := iq_cn_lt c2 h2; omega
    · omega
/-! A ring: m tones below p, rising. -/
def iq_rg (T : Int → Int) (m p : Int) : Prop := 1 ≤ m ∧ (∀ d, 0 ≤ d → d < m → 0 ≤ T d ∧ T d < p) ∧ (∀ d e, 0 ≤ d → d < e → e < m → T d < T e)
def iq_bt (T : Int → Int) (p d e : Int) : Int := if T e - T d < 0 then T e - T d + p else T e - T d
def iq_sp (T : Int → Int) (m p d n : Int) : Int := n / m * p + iq_bt T p d ((d + n) % m)
theorem iq_md {m : Int} (hm : 0 < m) {d n : Int} (h1 : 0 ≤ d) (h2 : d < m) (h3 : 0 ≤ n) : ∃ q r, n = q * m + r ∧ 0 ≤ r ∧ r < m ∧ 0 ≤ q ∧ n / m = q ∧ n % m = r ∧ ((d + r < m ∧ (d + n) % m = d + r ∧ (d + n) / m = q) ∨ (m ≤ d + r ∧ (d + n) % m = d + r - m ∧ (d + n) / m = q + 1)) := by
  refine ⟨n / m, n % m, ?_, Int.emod_nonneg _ (by omega), Int.emod_lt_of_pos _ hm, Int.ediv_nonneg h3 (by omega), rfl, rfl, ?_⟩
  · have := Int.emod_add_mul_ediv n m
    rw [Int.mul_comm] at this
    omega
  · have h4 := Int.emod_nonneg n (show m ≠ 0 by omega)
    have h5 := Int.emod_lt_of_pos n hm
    have h6 := Int.emod_add_mul_ediv n m
    by_cases c : d + n % m < m
    · left
      refine ⟨c, ?_, ?_⟩
      · rw [show d + n = (d + n % m) + m * (n / m) by omega, Int.add_mul_emod_self_left]
        exact Int.emod_eq_of_lt (by omega) c
      · rw [show d + n = (d + n % m) + m * (n / m) by omega, Int.add_mul_ediv_left _ _ (by omega), Int.ediv_eq_zero_of_lt (by omega) c]
        omega
    · right
      refine ⟨by omega, ?_, ?_⟩
      · rw [show d + n = (d + n % m - m) + m * (n / m + 1) by rw [Int.mul_add]; omega, Int.add_mul_emod_self_left]
        exact Int.emod_eq_of_lt (by omega) (by omega)
      · rw [show d + n = (d + n % m - m) + m * (n / m + 1) by rw [Int.mul_add]; omega, Int.add_mul_ediv_left _ _ (by omega), Int.ediv_eq_zero_of_lt (by omega) (by omega)]
        omega
theorem iq_btR {T : Int → Int} {m p : Int} (h : iq_rg T m p) {d e : Int} (h1 : 0 ≤ d) (h2 : d < m) (h3 : 0 ≤ e) (h4 : e < m) : 0 ≤ iq_bt T p d e ∧ iq_bt T p d e < p ∧ (iq_bt T p d e = 0 ↔ d = e) := by
  have a1 := h.2.1 d h1 h2
  have a2 := h.2.1 e h3 h4
  unfold iq_bt
  by_cases c1 : d < e
  · have := h.2.2 d e h1 c1 h4
    rw [if_neg (by omega)]
    omega
  · by_cases c2 : e < d
    · have := h.2.2 e d h3 c2 h2
      rw [if_pos (by omega)]
      omega
    · have : d = e := by omega
      subst this
      rw [if_neg (by omega)]
      omega
theorem iq_sp0 {T : Int → Int} {m p : Int} {d : Int} (hm : 0 < m) (h1 : 0 ≤ d) (h2 : d < m) : iq_sp T m p d 0 = 0 := by
  unfold iq_sp iq_bt
  rw [Int.add_zero, Int.emod_eq_of_lt h1 h2, Int.zero_ediv]
  simp
/-- spans add up -/
theorem iq_spS {T : Int → Int} {m p : Int} (h : iq_rg T m p) {d n : Int} (h1 : 0 ≤ d) (h2 : d < m) (h3 : 0 ≤ n) : iq_sp T m p d (n + 1) = iq_sp T m p d n + iq_sp T m p ((d + n) % m) 1 := by
  have hm : 0 < m := by have := h.1; omega
  obtain ⟨q, r, a1, a2, a3, a4, a5, a6, a7⟩ := iq_md hm h1 h2 h3
  have he1 := Int.emod_nonneg (d + n) (show m ≠ 0 by omega)
  have he2 := Int.emod_lt_of_pos (d + n) hm
  have hb := fun x (hx1 : 0 ≤ x) (hx2 : x < m) => h.2.1 x hx1 hx2
  have hlt := h.2.2
  -- the next place
  obtain ⟨q1, r1, b1, b2, b3, b4, b5, b6, b7⟩ := iq_md hm h1 h2 (show 0 ≤ n + 1 by omega)
  have hq : (r + 1 < m ∧ q1 = q ∧ r1 = r + 1) ∨ (r + 1 = m ∧ q1 = q + 1 ∧ r1 = 0) := by
    by_cases c : r + 1 < m
    · left
      have e1 : (n + 1) / m = q := by
        rw [show n + 1 = (r + 1) + m * q by rw [Int.mul_comm]; omega, Int.add_mul_ediv_left _ _ (by omega), Int.ediv_eq_zero_of_lt (by omega) c]; omega
      have e2 : (n + 1) % m = r + 1 := by
        rw [show n + 1 = (r + 1) + m * q by rw [Int.mul_comm]; omega, Int.add_mul_emod_self_left]
        exact Int.emod_eq_of_lt (by omega) c
      omega
    · right
      have e1 : (n + 1) / m = q + 1 := by
        rw [show n + 1 = 0 + m * (q + 1) by rw [Int.mul_add, Int.mul_comm]; omega, Int.add_mul_ediv_left _ _ (by omega)]; simp
      have e2 : (n + 1) % m = 0 := by
        rw [show n + 1 = 0 + m * (q + 1) by rw [Int.mul_add, Int.mul_comm]; omega, Int.add_mul_emod_self_left]
        simp
      omega
  unfold iq_sp
  rw [a5, b5]
  -- one step
  have hone : 1 / m * p = if m = 1 then p else 0 := by
    by_cases c : m = 1
    · rw [if_pos c, c]; simp
    · rw [if_neg c, Int.ediv_eq_zero_of_lt (by omega) (by omega)]; simp
  rw [hone]
  have hnx : ((d + n) % m + 1) % m = (d + (n + 1)) % m := by
    rw [Int.emod_add_emod]; congr 1; omega
  rw [hnx]
  have hqp : q1 * p = q * p + (if r + 1 = m then p else 0) := by
    rcases hq with ⟨c1, c2, c3⟩ | ⟨c1, c2, c3⟩
    · rw [c2, if_neg (by omega)]; omega
    · rw [c2, if_pos c1, Int.add_mul]; omega
  rw [hqp]
  generalize hE : (d + n) % m = E at *
  generalize hF : (d + (n + 1)) % m = F at *
  have hF1 : 0 ≤ F ∧ F < m := by rw [← hF]; exact ⟨Int.emod_nonneg _ (by omega), Int.emod_lt_of_pos _ hm⟩
  have v1 := hb d h1 h2
  have v2 := hb E he1 he2
  have v3 := hb F hF1.1 hF1.2
  have w1 := hlt d E h1
  have w2 := hlt E d he1
  have w3 := hlt E F he1
  have w4 := hlt F E hF1.1
  have w5 := hlt d F h1
  have w6 := hlt F d hF1.1
  have hdE : d = E → T d = T E := fun e => by rw [e]
  have hdF : d = F → T d = T F := fun e => by rw [e]
  have hEF : E = F → T E = T F := fun e => by rw [e]
  have hEv : (d + r < m ∧ E = d + r) ∨ (m ≤ d + r ∧ E = d + r - m) := by
    rcases a7 with ⟨c, e, _⟩ | ⟨c, e, _⟩
    · exact .inl ⟨c, e⟩
    · exact .inr ⟨c, e⟩
  have hFv : (d + r1 < m ∧ F = d + r1) ∨ (m ≤ d + r1 ∧ F = d + r1 - m) := by
    rcases b7 with ⟨c, e, _⟩ | ⟨c, e, _⟩
    · exact .inl ⟨c, e⟩
    · exact .inr ⟨c, e⟩
  generalize q * p = z
  clear hqp hnx hone a1 b1 a5 a6 a7 b5 b6 b7 hE hF hb hlt h
  unfold iq_bt
  by_cases cm : m = 1
  · rw [if_pos cm]
    have : d = 0 ∧ E = 0 ∧ F = 0 ∧ r + 1 = m := by omega
    obtain ⟨rfl, rfl, rfl, e4⟩ := this
    rw [if_pos e4]
    simp
  · rw [if_neg cm]
    rcases hq with ⟨c1, c2, c3⟩ | ⟨c1, c2, c3⟩
    · rw [if_neg (by omega)]
      by_cases k1 : T E - T d < 0 <;> by_cases k2 : T F - T E < 0 <;> by_cases k3 : T F - T d < 0
      all_goals simp only [k1, k2, k3, if_true, if_false]
      all_goals omega
    · rw [if_pos c1]
      by_cases k1 : T E - T d < 0 <;> by_cases k2 : T F - T E < 0 <;> by_cases k3 : T F - T d < 0
      all_goals simp only [k1, k2, k3, if_true, if_false]
      all_goals omega
/-- a sum over the first n -/
def iq_sm (f : Int → Int) : Nat → Int
  | 0 => 0
  | n + 1 => iq_sm f n + f n
theorem iq_sm_congr {f h : Int → Int} {n : Nat} (e : ∀ i : Int, 0 ≤ i → i < n → f i = h i) : iq_sm f n = iq_sm h n := by
  induction n with
  | zero => rfl
  | succ n ih =>
    rw [iq_sm, iq_sm, ih (fun i h1 h2 => e i h1 (by omega)), e n (by omega) (by omega)]
/-- the span is the sum of its steps -/
theorem iq_sp_sum {T : Int → Int} {m p : Int} (h : iq_rg T m p) {d : Int} (h1 : 0 ≤ d) (h2 : d < m) (n : Nat) : iq_sm (fun k => iq_sp T m p ((d + k) % m) 1) n = iq_sp T m p d n := by
  have hm : 0 < m := by have := h.1; omega
  induction n with
  | zero => rw [iq_sm]; exact (iq_sp0 hm h1 h2).symm
  | succ n ih =>
    rw [iq_sm, ih]
    exact (iq_spS h h1 h2 (by omega)).symm
