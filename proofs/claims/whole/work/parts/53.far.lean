/-! The class's Ring: farther. -/
theorem sp293_p {N : Nat} {xs : Nat → Int32} {Q : iq_T} {g : iq_I} {l : iq_J} {a b : Int} (hr : iq_RG g) (h : 0 ≤ a ∧ a < g 31 3) (hb : a ≤ b) (n : Nat) : ∀ (x : Int64) (k : Int), b < k → k + n = g 31 3 → (∀ t, iq_tb x t = true ↔ ∃ d, b < d ∧ d < k ∧ g 32 d - g 32 a = t) → (∀ y, (∀ t, iq_tb y t = true ↔ ∃ d, b < d ∧ d < g 31 3 ∧ g 32 d - g 32 a = t) → Q (some (iq_l y)) g l) → iq_P N xs 293 7 [some (iq_r 31), some (iq_i a), some (iq_i b), some (iq_l x), none, some (iq_i k)] [] g l Q := by
  have hr' := hr
  obtain ⟨r1, r2, r3⟩ := hr
  induction n with
  | zero =>
    intro x k h1 h2 hx q
    refine B293_p7_31 _ _ _ _ _ _ ⟨by omega, fun h => q x (fun t => ?_), fun h => by omega⟩
    rw [hx t]
    constructor
    · rintro ⟨d, a1, b1, c1⟩; exact ⟨d, a1, by omega, c1⟩
    · rintro ⟨d, a1, b1, c1⟩; exact ⟨d, a1, by omega, c1⟩
  | succ n ih =>
    intro x k h1 h2 hx q
    have a1 := r1.2.1 a h.1 h.2
    have a2 := r1.2.1 k (by omega) (by omega)
    have a3 := r1.2.2 a k h.1 (by omega) (by omega)
    refine B293_p7_31 _ _ _ _ _ _ ⟨by omega, fun h => by omega, fun h3 => sp138 hr' ⟨by omega, by omega⟩ ⟨_, rfl, sp138 hr' h ⟨_, rfl, sp6 (by omega) ⟨_, rfl, ih _ _ (by omega) (by omega) (fun t => ?_) q⟩⟩⟩⟩
    rw [iq_tb_or, Bool.or_eq_true, hx t, iq_tbof]
    simp only [Bool.and_eq_true, decide_eq_true_eq]
    constructor
    · rintro (⟨d, a, b, c⟩ | ⟨-, c⟩)
      · exact ⟨d, a, by omega, c⟩
      · exact ⟨k, h1, by omega, c.symm⟩
    · rintro ⟨d, a, b, c⟩
      by_cases e : d = k
      · right
        rw [e] at c
        exact ⟨⟨by omega, by omega⟩, c.symm⟩
      · left
        exact ⟨d, a, by omega, c⟩
theorem sp293 {N : Nat} {xs : Nat → Int32} {Q : iq_T} {g : iq_I} {l : iq_J} {a b : Int} (hr : iq_RG g) (h : 0 ≤ a ∧ a < g 31 3) (hb : a ≤ b ∧ b < g 31 3) (q : ∀ y, (∀ t, iq_tb y t = true ↔ ∃ d, b < d ∧ d < g 31 3 ∧ g 32 d - g 32 a = t) → Q (some (iq_l y)) g l) : iq_P N xs 293 0 [some (iq_r 31), some (iq_i a), some (iq_i b), none, none, none] [] g l Q := by
  refine B293_31 _ _ _ _ (sp293_p hr h hb.1 (g 31 3 - (b + 1)).toNat 0 (b + 1) (by omega) (by omega) (fun t => ?_) q)
  rw [iq_tb_0]
  constructor
  · intro h; cases h
  · rintro ⟨d, a, b, c⟩; omega
