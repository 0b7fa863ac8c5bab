/-! The class's Ring. -/
def iq_RG (g : iq_I) : Prop := iq_rg (g 32) (g 31 3) (g 31 2) ∧ g 31 3 ≤ 60 ∧ (2 ≤ g 31 2 ∧ g 31 2 ≤ 60)
theorem sp138 {N : Nat} {xs : Nat → Int32} {Q : iq_T} {g : iq_I} {l : iq_J} {d : Int} (hr : iq_RG g) (h : 0 ≤ d ∧ d < g 31 3) (q : Q (some (iq_i (g 32 d))) g l) : iq_P N xs 138 0 [some (iq_r 31), some (iq_i d)] [] g l Q := by
  obtain ⟨-, r2, r3⟩ := hr
  exact B138_31 _ _ _ ⟨by omega, fun h => by omega, fun h => ⟨by omega, fun h => by omega, fun h => ⟨by omega, fun h => by omega, fun h => ⟨by omega, q⟩⟩⟩⟩
theorem sp139 {N : Nat} {xs : Nat → Int32} {Q : iq_T} {g : iq_I} {l : iq_J} {d e : Int} (hr : iq_RG g) (h : 0 ≤ d ∧ d < g 31 3) (h2 : 0 ≤ e ∧ e < g 31 3) (q : Q (some (iq_i (iq_bt (g 32) (g 31 2) d e))) g l) : iq_P N xs 139 0 [some (iq_r 31), some (iq_i d), some (iq_i e), none] [] g l Q := by
  have hr' := hr
  obtain ⟨r1, r2, r3⟩ := hr
  have a1 := r1.2.1 d h.1 h.2
  have a2 := r1.2.1 e h2.1 h2.2
  unfold iq_bt at q
  refine B139_31 _ _ _ _ (sp138 hr' h2 ⟨_, rfl, sp138 hr' h ⟨_, rfl, by omega, fun h3 => ?_, fun h3 => ?_⟩⟩)
  · rw [if_neg (by omega)] at q; exact q
  · rw [if_pos h3] at q; exact q
theorem sp140 {N : Nat} {xs : Nat → Int32} {Q : iq_T} {g : iq_I} {l : iq_J} {d n : Int} (hr : iq_RG g) (h : 0 ≤ d ∧ d < g 31 3) (h2 : 0 ≤ n ∧ n ≤ 1000) (q : Q (some (iq_i (iq_sp (g 32) (g 31 3) (g 31 2) d n))) g l) : iq_P N xs 140 0 [some (iq_r 31), some (iq_i d), some (iq_i n)] [] g l Q := by
  have hr' := hr
  obtain ⟨r1, r2, r3⟩ := hr
  unfold iq_sp at q
  refine B140_31 _ _ _ _ ⟨by omega, fun h3 => ⟨by omega, by omega, ?_⟩, fun h3 => by omega⟩
  rw [Int.tmod_eq_emod_of_nonneg (by omega), Int.tdiv_eq_ediv_of_nonneg (by omega)]
  exact sp139 hr' h ⟨Int.emod_nonneg _ (by omega), Int.emod_lt_of_pos _ (by omega)⟩ ⟨_, rfl, q⟩
theorem iq_sp1 {T : Int → Int} {m p d : Int} (h : iq_rg T m p) (h1 : 0 ≤ d) (h2 : d < m) : 0 < iq_sp T m p d 1 ∧ iq_sp T m p d 1 ≤ p := by
  have hm : 0 < m := by have := h.1; omega
  have b := iq_btR h h1 h2 (Int.emod_nonneg (d + 1) (show m ≠ 0 by omega)) (Int.emod_lt_of_pos (d + 1) hm)
  have a1 := h.2.1 d h1 h2
  unfold iq_sp
  by_cases c : m = 1
  · subst c
    have : (d + 1) % 1 = d := by omega
    rw [this] at b ⊢
    have e : (1 : Int) / 1 * p = p := by simp
    rw [e]
    omega
  · rw [Int.ediv_eq_zero_of_lt (by omega) (by omega)]
    have : ¬ d = (d + 1) % m := by
      by_cases c2 : d + 1 < m
      · rw [Int.emod_eq_of_lt (by omega) c2]; omega
      · rw [show d + 1 = 0 + m * 1 by omega, Int.add_mul_emod_self_left]
        simp; omega
    omega
theorem sp141_p {N : Nat} {xs : Nat → Int32} {Q : iq_T} {g : iq_I} {l : iq_J} (hr : iq_RG g) (n : Nat) : ∀ (x : Int64) (k : Int), 0 ≤ k → k + n = g 31 3 → (∀ t, iq_tb x t = true ↔ ∃ d, 0 ≤ d ∧ d < k ∧ iq_sp (g 32) (g 31 3) (g 31 2) d 1 = t) → (∀ y, (∀ t, iq_tb y t = true ↔ ∃ d, 0 ≤ d ∧ d < g 31 3 ∧ iq_sp (g 32) (g 31 3) (g 31 2) d 1 = t) → Q (some (iq_l y)) g l) → iq_P N xs 141 4 [some (iq_r 31), some (iq_l x), none, some (iq_i k)] [] g l Q := by
  have hr' := hr
  obtain ⟨r1, r2, r3⟩ := hr
  induction n with
  | zero =>
    intro x k h1 h2 hx q
    refine B141_p4_31 _ _ _ _ ⟨by omega, fun h => q x (fun t => ?_), fun h => by omega⟩
    rw [hx t]
    constructor
    · rintro ⟨d, a, b, c⟩; exact ⟨d, a, by omega, c⟩
    · rintro ⟨d, a, b, c⟩; exact ⟨d, a, by omega, c⟩
  | succ n ih =>
    intro x k h1 h2 hx q
    have hs := iq_sp1 r1 h1 (show k < g 31 3 by omega)
    refine B141_p4_31 _ _ _ _ ⟨by omega, fun h => by omega, fun h => sp140 hr' ⟨h1, by omega⟩ (by omega) ⟨_, rfl, sp6 (by omega) ⟨_, rfl, ih _ _ (by omega) (by omega) (fun t => ?_) q⟩⟩⟩
    rw [iq_tb_or, Bool.or_eq_true, hx t, iq_tbof]
    simp only [Bool.and_eq_true, decide_eq_true_eq]
    constructor
    · rintro (⟨d, a, b, c⟩ | ⟨-, c⟩)
      · exact ⟨d, a, by omega, c⟩
      · exact ⟨k, h1, by omega, c.symm⟩
    · rintro ⟨d, a, b, c⟩
      by_cases e : d = k
      · right
        rw [e] at c
        exact ⟨⟨by omega, by omega⟩, c.symm⟩
      · left
        exact ⟨d, a, by omega, c⟩
theorem sp141 {N : Nat} {xs : Nat → Int32} {Q : iq_T} {g : iq_I} {l : iq_J} (hr : iq_RG g) (q : ∀ y, (∀ t, iq_tb y t = true ↔ ∃ d, 0 ≤ d ∧ d < g 31 3 ∧ iq_sp (g 32) (g 31 3) (g 31 2) d 1 = t) → Q (some (iq_l y)) g l) : iq_P N xs 141 0 [some (iq_r 31), none, none, none] [] g l Q := by
  have := hr.1.1
  refine B141_31 _ _ (sp141_p hr (g 31 3).toNat 0 0 (by omega) (by omega) (fun t => ?_) q)
  rw [iq_tb_0]
  constructor
  · intro h; cases h
  · rintro ⟨d, a, b, c⟩; omega
theorem sp171_p {N : Nat} {xs : Nat → Int32} {Q : iq_T} {g : iq_I} {l : iq_J} {size : Int} (hs0 : -2147483648 ≤ size ∧ size ≤ 2147483647) (hr : iq_RG g) (n : Nat) : ∀ (k : Nat), (k : Int) + n = g 31 3 → Q (some (iq_i (iq_cn (fun d => decide (iq_sp (g 32) (g 31 3) (g 31 2) d 1 = size)) (g 31 3).toNat))) g l → iq_P N xs 171 4 [some (iq_r 31), some (iq_i size), some (iq_i (iq_cn (fun d => decide (iq_sp (g 32) (g 31 3) (g 31 2) d 1 = size)) k)), some (iq_i k)] [] g l Q := by
  have hr' := hr
  obtain ⟨r1, r2, r3⟩ := hr
  induction n with
  | zero =>
    intro k h2 q
    rw [show (g 31 3).toNat = k by omega] at q
    exact B171_p4_31 _ _ _ _ _ ⟨by omega, fun h => q, fun h => by omega⟩
  | succ n ih =>
    intro k h2 q
    have hs := iq_sp1 r1 (show (0 : Int) ≤ k by omega) (show (k : Int) < g 31 3 by omega)
    have := ih (k + 1) (by omega) q
    rw [iq_cn] at this
    refine B171_p4_31 _ _ _ _ _ ⟨by omega, fun h => by omega, fun h => sp140 hr' ⟨by omega, by omega⟩ (by omega) ⟨_, rfl, by omega, fun c => ?_, fun c => ?_⟩⟩
    · rw [if_neg (by simpa using c)] at this
      exact this
    · rw [if_pos (by simpa using c)] at this
      exact this
theorem sp171 {N : Nat} {xs : Nat → Int32} {Q : iq_T} {g : iq_I} {l : iq_J} {size : Int} (hs0 : -2147483648 ≤ size ∧ size ≤ 2147483647) (hr : iq_RG g) (q : Q (some (iq_i (iq_cn (fun d => decide (iq_sp (g 32) (g 31 3) (g 31 2) d 1 = size)) (g 31 3).toNat))) g l) : iq_P N xs 171 0 [some (iq_r 31), some (iq_i size), none, none] [] g l Q := by
  have := hr.1.1
  exact B171_31 _ _ _ (sp171_p hs0 hr (g 31 3).toNat 0 (by omega) q)
theorem sp203_p {N : Nat} {xs : Nat → Int32} {Q : iq_T} {g : iq_I} {l : iq_J} {n0 : Int} (hn : 0 ≤ n0 ∧ n0 ≤ 1000) (hr : iq_RG g) (n : Nat) : ∀ (x : Int64) (k : Int), 0 ≤ k → k + n = g 31 3 → (∀ t, iq_tb x t = true ↔ ∃ d, 0 ≤ d ∧ d < k ∧ iq_bt (g 32) (g 31 2) d ((d + n0) % g 31 3) = t) → (∀ y, (∀ t, iq_tb y t = true ↔ ∃ d, 0 ≤ d ∧ d < g 31 3 ∧ iq_bt (g 32) (g 31 2) d ((d + n0) % g 31 3) = t) → Q (some (iq_i (iq_cn (iq_tb y) 64))) g l) → iq_P N xs 203 15 [some (iq_r 31), some (iq_i n0), some (iq_l x), none, some (iq_i k)] [] g l Q := by
  have hr' := hr
  obtain ⟨r1, r2, r3⟩ := hr
  induction n with
  | zero =>
    intro x k h1 h2 hx q
    refine B203_p15_31 _ _ _ _ _ ⟨by omega, fun h => sp88 ⟨_, rfl, q x (fun t => ?_)⟩, fun h => by omega⟩
    rw [hx t]
    constructor
    · rintro ⟨d, a, b, c⟩; exact ⟨d, a, by omega, c⟩
    · rintro ⟨d, a, b, c⟩; exact ⟨d, a, by omega, c⟩
  | succ n ih =>
    intro x k h1 h2 hx q
    have he1 := Int.emod_nonneg (k + n0) (show g 31 3 ≠ 0 by omega)
    have he2 := Int.emod_lt_of_pos (k + n0) (show 0 < g 31 3 by omega)
    have hs := iq_btR r1 h1 (show k < g 31 3 by omega) he1 he2
    refine B203_p15_31 _ _ _ _ _ ⟨by omega, fun h => by omega, fun h => ⟨by omega, ?_⟩⟩
    rw [Int.tmod_eq_emod_of_nonneg (by omega)]
    refine sp139 hr' ⟨h1, by omega⟩ ⟨he1, he2⟩ ⟨_, rfl, sp6 (by omega) ⟨_, rfl, ih _ _ (by omega) (by omega) (fun t => ?_) q⟩⟩
    rw [iq_tb_or, Bool.or_eq_true, hx t, iq_tbof]
    simp only [Bool.and_eq_true, decide_eq_true_eq]
    constructor
    · rintro (⟨d, a, b, c⟩ | ⟨-, c⟩)
      · exact ⟨d, a, by omega, c⟩
      · exact ⟨k, h1, by omega, c.symm⟩
    · rintro ⟨d, a, b, c⟩
      by_cases e : d = k
      · right
        rw [e] at c
        exact ⟨⟨by omega, by omega⟩, c.symm⟩
      · left
        exact ⟨d, a, by omega, c⟩
theorem sp203 {N : Nat} {xs : Nat → Int32} {Q : iq_T} {g : iq_I} {l : iq_J} {n0 : Int} (hn : 0 ≤ n0 ∧ n0 ≤ 1000) (hr : iq_RG g) (q : ∀ y, (∀ t, iq_tb y t = true ↔ ∃ d, 0 ≤ d ∧ d < g 31 3 ∧ iq_bt (g 32) (g 31 2) d ((d + n0) % g 31 3) = t) → Q (some (iq_i (iq_cn (iq_tb y) 64))) g l) : iq_P N xs 203 0 [some (iq_r 31), some (iq_i n0), none, none, none] [] g l Q := by
  have hm := hr.1.1
  have hm2 := hr.2.1
  refine B203_31 _ _ _ ⟨by omega, fun h => sp203_p hn hr (g 31 3).toNat 0 0 (by omega) (by omega) (fun t => ?_) q, fun h => by omega⟩
  rw [iq_tb_0]
  constructor
  · intro h; cases h
  · rintro ⟨d, a, b, c⟩; omega
theorem sp215 {N : Nat} {xs : Nat → Int32} {Q : iq_T} {g : iq_I} {l : iq_J} {d : Int} (hr : iq_RG g) (h : 0 ≤ d ∧ d < g 31 3) (q : Q (some (iq_l (if g 32 d ≤ 0 then l 31 1 else iq_turn (l 31 1) (g 31 2 - g 32 d) (g 31 2)))) g l) : iq_P N xs 215 0 [some (iq_r 31), some (iq_i d), none] [] g l Q := by
  have a1 := hr.1.2.1 d h.1 h.2
  have a2 := hr.2.2
  refine B215_31 _ _ _ (sp138 hr h ⟨_, rfl, by omega, fun c => ?_, fun c => sp188 (by omega) ⟨_, rfl, ?_⟩⟩)
  · rw [if_pos c] at q; exact q
  · rw [if_neg (by omega)] at q; exact q
theorem iq_smR {f : Int → Int} {n : Nat} {b : Int} (hb : 0 ≤ b) (h : ∀ i, 0 ≤ i → i < n → 0 ≤ f i ∧ f i ≤ b) : 0 ≤ iq_sm f n ∧ iq_sm f n ≤ b * n := by
  induction n with
  | zero => rw [iq_sm]; simp
  | succ n ih =>
    have h1 := ih (fun i a c => h i a (by omega))
    have h2 := h n (by omega) (by omega)
    rw [iq_sm]
    have e : b * ((n + 1 : Nat) : Int) = b * n + b := by
      rw [show ((n + 1 : Nat) : Int) = (n : Int) + 1 by omega, Int.mul_add, Int.mul_one]
    rw [e]
    omega
theorem sp221_p {N : Nat} {xs : Nat → Int32} {Q : iq_T} {g : iq_I} {l : iq_J} {d : Int} (hr : iq_RG g) (h : 0 ≤ d ∧ d < g 31 3) (n : Nat) : ∀ (k : Nat), (k : Int) + n = g 31 3 → Q (some (iq_i (iq_sm (fun e => iq_bt (g 32) (g 31 2) d e) (g 31 3).toNat))) g l → iq_P N xs 221 4 [some (iq_r 31), some (iq_i d), some (iq_i (iq_sm (fun e => iq_bt (g 32) (g 31 2) d e) k)), some (iq_i k)] [] g l Q := by
  have hr' := hr
  obtain ⟨r1, r2, r3⟩ := hr
  induction n with
  | zero =>
    intro k h2 q
    rw [show (g 31 3).toNat = k by omega] at q
    exact B221_p4_31 _ _ _ _ _ ⟨by omega, fun h => q, fun h => by omega⟩
  | succ n ih =>
    intro k h2 q
    have := ih (k + 1) (by omega) q
    rw [iq_sm] at this
    exact B221_p4_31 _ _ _ _ _ ⟨by omega, fun h => by omega, fun h3 => sp139 hr' h ⟨by omega, by omega⟩ ⟨_, rfl, this⟩⟩
theorem sp221 {N : Nat} {xs : Nat → Int32} {Q : iq_T} {g : iq_I} {l : iq_J} {d : Int} (hr : iq_RG g) (h : 0 ≤ d ∧ d < g 31 3) (q : Q (some (iq_i (iq_sm (fun e => iq_bt (g 32) (g 31 2) d e) (g 31 3).toNat))) g l) : iq_P N xs 221 0 [some (iq_r 31), some (iq_i d), none, none] [] g l Q := by
  have := hr.1.1
  exact B221_31 _ _ _ (sp221_p hr h (g 31 3).toNat 0 (by omega) q)
/-! gathering a ring out of a set -/
theorem sp136_p {N : Nat} {xs : Nat → Int32} {Q : iq_T} {l : iq_J} {x : Int64} {p : Int} {g0 : iq_I} (hp : 0 ≤ p ∧ p ≤ 60) (q : ∀ g' : iq_I, (∀ j, ¬ j = 31 → ¬ j = 32 → g' j = g0 j) → g' 31 2 = p → g' 31 3 = iq_cn (iq_tb x) p.toNat → (∀ t : Nat, (t : Int) < p → iq_tb x t = true → g' 32 (iq_cn (iq_tb x) t) = t) → Q none g' l) (n : Nat) : ∀ (k : Nat) (g : iq_I), (k : Int) + n = p → (∀ j, ¬ j = 31 → ¬ j = 32 → g j = g0 j) → g 31 2 = p → g 31 3 = iq_cn (iq_tb x) k → (∀ t : Nat, t < k → iq_tb x t = true → g 32 (iq_cn (iq_tb x) t) = t) → iq_P N xs 136 18 [some (iq_r 31), some (iq_l x), none, some (iq_i p), some (iq_i k)] [] g l Q := by
  induction n with
  | zero =>
    intro k g h1 h2 h3 h4 h5
    have hc := iq_cn_nonneg (iq_tb x) k
    refine B136_p18_31 _ _ _ _ _ ⟨by omega, fun h => q g h2 h3 ?_ (fun t ht => h5 t (by omega)), fun h => by omega⟩
    rw [h4]; congr 1; omega
  | succ n ih =>
    intro k g h1 h2 h3 h4 h5
    have hc := iq_cn_nonneg (iq_tb x) k
    refine B136_p18_31 _ _ _ _ _ ⟨by omega, fun h => by omega, fun h => ⟨by omega, fun h => by omega, fun h => sp74 (by omega) (fun hb => ⟨_, rfl, by omega, fun h => by omega, fun _ => ⟨by omega, ?_⟩⟩) (fun hb => ⟨_, rfl, by omega, fun _ => ?_, fun h => by omega⟩)⟩⟩
    · refine ih (k + 1) _ (by omega) (fun j a b => ?_) ?_ ?_ (fun t ht hb2 => ?_)
      · rw [← h2 j a b]
        funext i
        simp [iq_uz, a, b]
      · rw [← h3]; simp [iq_uz]
      · rw [iq_cn, if_pos hb]; simp [iq_uz, h4]
      · by_cases c : t = k
        · subst c
          simp [iq_uz, h4]
        · have := h5 t (by omega) hb2
          have hl := iq_cn_lt (show t < k by omega) hb2
          rw [← this]
          simp [iq_uz]
          intro e
          omega
    · refine ih (k + 1) _ (by omega) h2 h3 ?_ (fun t ht hb2 => ?_)
      · rw [iq_cn, if_neg (by rw [hb]; decide), h4]; simp
      · by_cases c : t = k
        · subst c; rw [hb] at hb2; cases hb2
        · exact h5 t (by omega) hb2
theorem sp136 {N : Nat} {xs : Nat → Int32} {Q : iq_T} {g : iq_I} {l : iq_J} {x : Int64} {p : Int} (hp : 0 ≤ p ∧ p ≤ 60) (q : ∀ g' : iq_I, (∀ j, ¬ j = 31 → ¬ j = 32 → g' j = g j) → g' 31 2 = p → g' 31 3 = iq_cn (iq_tb x) p.toNat → (∀ t : Nat, (t : Int) < p → iq_tb x t = true → g' 32 (iq_cn (iq_tb x) t) = t) → Q none g' (iq_uz l 31 1 x)) : iq_P N xs 136 0 [some (iq_r 31), some (iq_l x), none, some (iq_i p), none] [] g l Q := by
  refine B136_31 _ _ _ _ (sp136_p hp q p.toNat 0 _ (by omega) (fun j a b => ?_) ?_ ?_ (fun t ht => by omega))
  · funext i
    simp [iq_uz, a]
  · simp [iq_uz]
  · simp [iq_uz, iq_cn]
/-- a ring gathered out of a set that isn't empty is one -/
theorem iq_ring_of {f : Int → Bool} {p : Nat} {T : Int → Int} (h1 : 0 < iq_cn f p) (h2 : ∀ t : Nat, t < p → f t = true → T (iq_cn f t) = t) : iq_rg T (iq_cn f p) p := by
  refine ⟨by omega, fun d a b => ?_, fun d e a b c => ?_⟩
  · obtain ⟨t, t1, t2, t3⟩ := iq_cn_sur f p d a b
    rw [← t3, h2 t t1 t2]
    omega
  · obtain ⟨t, t1, t2, t3⟩ := iq_cn_sur f p d a (by omega)
    obtain ⟨u, u1, u2, u3⟩ := iq_cn_sur f p e (by omega) c
    rw [← t3, ← u3, h2 t t1 t2, h2 u u1 u2]
    by_cases hc : t < u
    · omega
    · have := iq_cn_mono f (show u ≤ t by omega)
      omega
