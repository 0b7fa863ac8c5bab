/-! The class's Scale. -/
def iq_pb (P : Int → Int) : Prop := (0 ≤ P 0 ∧ P 0 ≤ 16) ∧ (2 ≤ P 1 ∧ P 1 ≤ 60) ∧ (0 ≤ P 2 ∧ P 2 < P 1) ∧ (1 ≤ P 3 ∧ P 3 ≤ 24) ∧ (0 ≤ P 4 ∧ P 4 ≤ 23) ∧ (0 ≤ P 5 ∧ P 5 < P 1) ∧ (1 ≤ P 6 ∧ P 6 ≤ 7) ∧ (0 ≤ P 7 ∧ P 7 < P 1) ∧ (0 ≤ P 8 ∧ P 8 < P 1)
/-- a tone of a chain -/
def iq_ch (p down gen root k : Int) : Int := (root + (k - down) * gen) % p
theorem iq_addm {a c p : Int} (hp : 0 < p) (h1 : 0 ≤ c) (h2 : c < p) : (a + c) % p = if a % p + c < p then a % p + c else a % p + c - p := by
  have e1 := Int.emod_nonneg a (show p ≠ 0 by omega)
  have e2 := Int.emod_lt_of_pos a hp
  rw [← Int.emod_add_emod]
  split
  · next h => exact Int.emod_eq_of_lt (by omega) h
  · next h =>
    have h3 : (a % p + c - p) % p = a % p + c - p := Int.emod_eq_of_lt (by omega) (by omega)
    have h4 := Int.add_mul_emod_self_left (a % p + c - p) p 1
    rw [show a % p + c - p + p * 1 = a % p + c by omega] at h4
    rw [h4, h3]
theorem iq_chS {p down gen root k : Int} (hp : 0 < p) (h1 : 0 ≤ gen) (h2 : gen < p) : iq_ch p down gen root (k + 1) = if iq_ch p down gen root k + gen < p then iq_ch p down gen root k + gen else iq_ch p down gen root k + gen - p := by
  unfold iq_ch
  rw [← iq_addm hp h1 h2]
  congr 1
  rw [show k + 1 - down = (k - down) + 1 by omega, Int.add_mul]
  omega
theorem iq_chR {p down gen root k : Int} (hp : 0 < p) : 0 ≤ iq_ch p down gen root k ∧ iq_ch p down gen root k < p := ⟨Int.emod_nonneg _ (by omega), Int.emod_lt_of_pos _ hp⟩
theorem iq_mulR {a b x y : Int} (h1 : 0 ≤ a) (h2 : a ≤ x) (h3 : 0 ≤ b) (h4 : b ≤ y) : 0 ≤ a * b ∧ a * b ≤ x * y := by
  refine ⟨Int.mul_nonneg h1 h3, Int.mul_le_mul h2 h4 h3 (by omega)⟩
theorem sp5_23 {N : Nat} {xs : Nat → Int32} {Q : iq_T} {g : iq_I} {l : iq_J} {a0 : Int} (h1 : -2147483648 < a0 ∧ a0 ≤ 2147483647) (h2 : 0 < g 24 1 ∧ g 24 1 ≤ 2147483647) (q : Q (some (iq_i (a0 % g 24 1))) g l) : iq_P N xs 5 0 [some (iq_r 23), some (iq_i a0), none] [] g l Q :=
  B5_23 _ _ _ ⟨by omega, fun h => by omega, fun h => sp4 h1 h2 ⟨_, rfl, q⟩⟩
theorem sp77_23 {N : Nat} {xs : Nat → Int32} {Q : iq_T} {g : iq_I} {l : iq_J} {a0 : Int} (h1 : -2147483648 ≤ a0 ∧ a0 ≤ 2147483647) (h2 : -2147483648 ≤ g 24 1 ∧ g 24 1 ≤ 2147483647) (q1 : 0 ≤ a0 → a0 < g 24 1 → Q (some (iq_i 1)) g l) (q0 : ¬ (0 ≤ a0 ∧ a0 < g 24 1) → Q (some (iq_i 0)) g l) : iq_P N xs 77 0 [some (iq_r 23), some (iq_i a0)] [] g l Q :=
  B77_23 _ _ _ ⟨by omega, fun h => q0 (by omega), fun h => ⟨by omega, fun h3 => q0 (by omega), fun h3 => q1 h h3⟩⟩
theorem sp8_p23 {N : Nat} {xs : Nat → Int32} {Q : iq_T} {g : iq_I} {l : iq_J} {gen root len : Int} (hp : iq_pb (g 24)) (hg : 0 ≤ gen ∧ gen < g 24 1) (hl : 0 ≤ len ∧ len ≤ 24) (n : Nat) : ∀ (x : Int64) (k : Int), 0 ≤ k → k + n = len → (∀ t, iq_tb x t = true ↔ ∃ j, 0 ≤ j ∧ j < k ∧ iq_ch (g 24 1) (g 24 4) gen root j = t) → (∀ y, (∀ t, iq_tb y t = true ↔ ∃ j, 0 ≤ j ∧ j < len ∧ iq_ch (g 24 1) (g 24 4) gen root j = t) → Q (some (iq_l y)) g l) → iq_P N xs 8 22 [some (iq_r 23), some (iq_i gen), some (iq_i root), some (iq_i len), some (iq_l x), none, some (iq_i (iq_ch (g 24 1) (g 24 4) gen root k)), some (iq_i k)] [] g l Q := by
  obtain ⟨p0, p1, p2, p3, p4, p5, p6, p7, p8⟩ := hp
  induction n with
  | zero =>
    intro x k h1 h2 hx q
    refine B8_p22_23 _ _ _ _ _ _ _ _ ⟨by omega, fun h => q x (fun t => ?_), fun h => by omega⟩
    rw [hx t]
    constructor
    · rintro ⟨j, a, b, c⟩; exact ⟨j, a, by omega, c⟩
    · rintro ⟨j, a, b, c⟩; exact ⟨j, a, by omega, c⟩
  | succ n ih =>
    intro x k h1 h2 hx q
    have hr := iq_chR (p := g 24 1) (down := g 24 4) (gen := gen) (root := root) (k := k) (by omega)
    have hS := iq_chS (p := g 24 1) (down := g 24 4) (gen := gen) (root := root) (k := k) (by omega) hg.1 hg.2
    have hx' : ∀ t, iq_tb (x ||| iq_of (iq_ch (g 24 1) (g 24 4) gen root k)) t = true ↔ ∃ j, 0 ≤ j ∧ j < k + 1 ∧ iq_ch (g 24 1) (g 24 4) gen root j = t := by
      intro t
      rw [iq_tb_or, Bool.or_eq_true, hx t, iq_tbof]
      simp only [Bool.and_eq_true, decide_eq_true_eq]
      constructor
      · rintro (⟨j, a, b, c⟩ | ⟨-, c⟩)
        · exact ⟨j, a, by omega, c⟩
        · exact ⟨k, h1, by omega, c.symm⟩
      · rintro ⟨j, a, b, c⟩
        by_cases e : j = k
        · right
          rw [e] at c
          exact ⟨⟨hr.1, by omega⟩, c.symm⟩
        · left
          exact ⟨j, a, by omega, c⟩
    refine B8_p22_23 _ _ _ _ _ _ _ _ ⟨by omega, fun h => by omega, fun h => sp6 (by omega) ⟨_, rfl, by omega, fun h3 => ?_, fun h3 => ?_⟩⟩
    · have := ih (x ||| iq_of (iq_ch (g 24 1) (g 24 4) gen root k)) (k + 1) (by omega) (by omega) hx' q
      rw [hS, if_pos h3, show iq_ch (g 24 1) (g 24 4) gen root k + gen = (iq_ch (g 24 1) (g 24 4) gen root k + gen) - 0 by omega] at this
      exact this
    · have := ih (x ||| iq_of (iq_ch (g 24 1) (g 24 4) gen root k)) (k + 1) (by omega) (by omega) hx' q
      rw [hS, if_neg (by omega)] at this
      exact this
theorem sp8_23 {N : Nat} {xs : Nat → Int32} {Q : iq_T} {g : iq_I} {l : iq_J} {gen root len : Int} (hp : iq_pb (g 24)) (hg : 0 ≤ gen ∧ gen < g 24 1) (hr : 0 ≤ root ∧ root < 60) (hl : 0 ≤ len ∧ len ≤ 24) (q : ∀ y, (∀ t, iq_tb y t = true ↔ ∃ j, 0 ≤ j ∧ j < len ∧ iq_ch (g 24 1) (g 24 4) gen root j = t) → Q (some (iq_l y)) g l) : iq_P N xs 8 0 [some (iq_r 23), some (iq_i gen), some (iq_i root), some (iq_i len), none, none, none, none] [] g l Q := by
  have hp' := hp
  obtain ⟨p0, p1, p2, p3, p4, p5, p6, p7, p8⟩ := hp
  have hm := iq_mulR (a := g 24 4) (b := gen) (x := 23) (y := 60) (by omega) (by omega) (by omega) (by omega)
  refine B8_23 _ _ _ _ _ (sp5_23 (by omega) (by omega) ⟨_, rfl, ?_⟩)
  have e : (root - g 24 4 * gen) % g 24 1 = iq_ch (g 24 1) (g 24 4) gen root 0 := by
    unfold iq_ch
    congr 1
    rw [Int.sub_mul]
    omega
  rw [e]
  refine sp8_p23 hp' hg hl len.toNat 0 0 (by omega) (by omega) (fun t => ?_) q
  rw [iq_tb_0]
  constructor
  · intro h; cases h
  · rintro ⟨j, a, b, c⟩; omega
theorem sp5_44 {N : Nat} {xs : Nat → Int32} {Q : iq_T} {g : iq_I} {l : iq_J} {a0 : Int} (h1 : -2147483648 < a0 ∧ a0 ≤ 2147483647) (h2 : 0 < g 45 1 ∧ g 45 1 ≤ 2147483647) (q : Q (some (iq_i (a0 % g 45 1))) g l) : iq_P N xs 5 0 [some (iq_r 44), some (iq_i a0), none] [] g l Q :=
  B5_44 _ _ _ ⟨by omega, fun h => by omega, fun h => sp4 h1 h2 ⟨_, rfl, q⟩⟩
theorem sp77_44 {N : Nat} {xs : Nat → Int32} {Q : iq_T} {g : iq_I} {l : iq_J} {a0 : Int} (h1 : -2147483648 ≤ a0 ∧ a0 ≤ 2147483647) (h2 : -2147483648 ≤ g 45 1 ∧ g 45 1 ≤ 2147483647) (q1 : 0 ≤ a0 → a0 < g 45 1 → Q (some (iq_i 1)) g l) (q0 : ¬ (0 ≤ a0 ∧ a0 < g 45 1) → Q (some (iq_i 0)) g l) : iq_P N xs 77 0 [some (iq_r 44), some (iq_i a0)] [] g l Q :=
  B77_44 _ _ _ ⟨by omega, fun h => q0 (by omega), fun h => ⟨by omega, fun h3 => q0 (by omega), fun h3 => q1 h h3⟩⟩
theorem sp8_p44 {N : Nat} {xs : Nat → Int32} {Q : iq_T} {g : iq_I} {l : iq_J} {gen root len : Int} (hp : iq_pb (g 45)) (hg : 0 ≤ gen ∧ gen < g 45 1) (hl : 0 ≤ len ∧ len ≤ 24) (n : Nat) : ∀ (x : Int64) (k : Int), 0 ≤ k → k + n = len → (∀ t, iq_tb x t = true ↔ ∃ j, 0 ≤ j ∧ j < k ∧ iq_ch (g 45 1) (g 45 4) gen root j = t) → (∀ y, (∀ t, iq_tb y t = true ↔ ∃ j, 0 ≤ j ∧ j < len ∧ iq_ch (g 45 1) (g 45 4) gen root j = t) → Q (some (iq_l y)) g l) → iq_P N xs 8 22 [some (iq_r 44), some (iq_i gen), some (iq_i root), some (iq_i len), some (iq_l x), none, some (iq_i (iq_ch (g 45 1) (g 45 4) gen root k)), some (iq_i k)] [] g l Q := by
  obtain ⟨p0, p1, p2, p3, p4, p5, p6, p7, p8⟩ := hp
  induction n with
  | zero =>
    intro x k h1 h2 hx q
    refine B8_p22_44 _ _ _ _ _ _ _ _ ⟨by omega, fun h => q x (fun t => ?_), fun h => by omega⟩
    rw [hx t]
    constructor
    · rintro ⟨j, a, b, c⟩; exact ⟨j, a, by omega, c⟩
    · rintro ⟨j, a, b, c⟩; exact ⟨j, a, by omega, c⟩
  | succ n ih =>
    intro x k h1 h2 hx q
    have hr := iq_chR (p := g 45 1) (down := g 45 4) (gen := gen) (root := root) (k := k) (by omega)
    have hS := iq_chS (p := g 45 1) (down := g 45 4) (gen := gen) (root := root) (k := k) (by omega) hg.1 hg.2
    have hx' : ∀ t, iq_tb (x ||| iq_of (iq_ch (g 45 1) (g 45 4) gen root k)) t = true ↔ ∃ j, 0 ≤ j ∧ j < k + 1 ∧ iq_ch (g 45 1) (g 45 4) gen root j = t := by
      intro t
      rw [iq_tb_or, Bool.or_eq_true, hx t, iq_tbof]
      simp only [Bool.and_eq_true, decide_eq_true_eq]
      constructor
      · rintro (⟨j, a, b, c⟩ | ⟨-, c⟩)
        · exact ⟨j, a, by omega, c⟩
        · exact ⟨k, h1, by omega, c.symm⟩
      · rintro ⟨j, a, b, c⟩
        by_cases e : j = k
        · right
          rw [e] at c
          exact ⟨⟨hr.1, by omega⟩, c.symm⟩
        · left
          exact ⟨j, a, by omega, c⟩
    refine B8_p22_44 _ _ _ _ _ _ _ _ ⟨by omega, fun h => by omega, fun h => sp6 (by omega) ⟨_, rfl, by omega, fun h3 => ?_, fun h3 => ?_⟩⟩
    · have := ih (x ||| iq_of (iq_ch (g 45 1) (g 45 4) gen root k)) (k + 1) (by omega) (by omega) hx' q
      rw [hS, if_pos h3, show iq_ch (g 45 1) (g 45 4) gen root k + gen = (iq_ch (g 45 1) (g 45 4) gen root k + gen) - 0 by omega] at this
      exact this
    · have := ih (x ||| iq_of (iq_ch (g 45 1) (g 45 4) gen root k)) (k + 1) (by omega) (by omega) hx' q
      rw [hS, if_neg (by omega)] at this
      exact this
theorem sp8_44 {N : Nat} {xs : Nat → Int32} {Q : iq_T} {g : iq_I} {l : iq_J} {gen root len : Int} (hp : iq_pb (g 45)) (hg : 0 ≤ gen ∧ gen < g 45 1) (hr : 0 ≤ root ∧ root < 60) (hl : 0 ≤ len ∧ len ≤ 24) (q : ∀ y, (∀ t, iq_tb y t = true ↔ ∃ j, 0 ≤ j ∧ j < len ∧ iq_ch (g 45 1) (g 45 4) gen root j = t) → Q (some (iq_l y)) g l) : iq_P N xs 8 0 [some (iq_r 44), some (iq_i gen), some (iq_i root), some (iq_i len), none, none, none, none] [] g l Q := by
  have hp' := hp
  obtain ⟨p0, p1, p2, p3, p4, p5, p6, p7, p8⟩ := hp
  have hm := iq_mulR (a := g 45 4) (b := gen) (x := 23) (y := 60) (by omega) (by omega) (by omega) (by omega)
  refine B8_44 _ _ _ _ _ (sp5_44 (by omega) (by omega) ⟨_, rfl, ?_⟩)
  have e : (root - g 45 4 * gen) % g 45 1 = iq_ch (g 45 1) (g 45 4) gen root 0 := by
    unfold iq_ch
    congr 1
    rw [Int.sub_mul]
    omega
  rw [e]
  refine sp8_p44 hp' hg hl len.toNat 0 0 (by omega) (by omega) (fun t => ?_) q
  rw [iq_tb_0]
  constructor
  · intro h; cases h
  · rintro ⟨j, a, b, c⟩; omega
theorem sp5_13 {N : Nat} {xs : Nat → Int32} {Q : iq_T} {g : iq_I} {l : iq_J} {a0 : Int} (h1 : -2147483648 < a0 ∧ a0 ≤ 2147483647) (h2 : 0 < g 14 1 ∧ g 14 1 ≤ 2147483647) (q : Q (some (iq_i (a0 % g 14 1))) g l) : iq_P N xs 5 0 [some (iq_r 13), some (iq_i a0), none] [] g l Q :=
  B5_13 _ _ _ ⟨by omega, fun h => by omega, fun h => sp4 h1 h2 ⟨_, rfl, q⟩⟩
theorem sp77_13 {N : Nat} {xs : Nat → Int32} {Q : iq_T} {g : iq_I} {l : iq_J} {a0 : Int} (h1 : -2147483648 ≤ a0 ∧ a0 ≤ 2147483647) (h2 : -2147483648 ≤ g 14 1 ∧ g 14 1 ≤ 2147483647) (q1 : 0 ≤ a0 → a0 < g 14 1 → Q (some (iq_i 1)) g l) (q0 : ¬ (0 ≤ a0 ∧ a0 < g 14 1) → Q (some (iq_i 0)) g l) : iq_P N xs 77 0 [some (iq_r 13), some (iq_i a0)] [] g l Q :=
  B77_13 _ _ _ ⟨by omega, fun h => q0 (by omega), fun h => ⟨by omega, fun h3 => q0 (by omega), fun h3 => q1 h h3⟩⟩
theorem sp8_p13 {N : Nat} {xs : Nat → Int32} {Q : iq_T} {g : iq_I} {l : iq_J} {gen root len : Int} (hp : iq_pb (g 14)) (hg : 0 ≤ gen ∧ gen < g 14 1) (hl : 0 ≤ len ∧ len ≤ 24) (n : Nat) : ∀ (x : Int64) (k : Int), 0 ≤ k → k + n = len → (∀ t, iq_tb x t = true ↔ ∃ j, 0 ≤ j ∧ j < k ∧ iq_ch (g 14 1) (g 14 4) gen root j = t) → (∀ y, (∀ t, iq_tb y t = true ↔ ∃ j, 0 ≤ j ∧ j < len ∧ iq_ch (g 14 1) (g 14 4) gen root j = t) → Q (some (iq_l y)) g l) → iq_P N xs 8 22 [some (iq_r 13), some (iq_i gen), some (iq_i root), some (iq_i len), some (iq_l x), none, some (iq_i (iq_ch (g 14 1) (g 14 4) gen root k)), some (iq_i k)] [] g l Q := by
  obtain ⟨p0, p1, p2, p3, p4, p5, p6, p7, p8⟩ := hp
  induction n with
  | zero =>
    intro x k h1 h2 hx q
    refine B8_p22_13 _ _ _ _ _ _ _ _ ⟨by omega, fun h => q x (fun t => ?_), fun h => by omega⟩
    rw [hx t]
    constructor
    · rintro ⟨j, a, b, c⟩; exact ⟨j, a, by omega, c⟩
    · rintro ⟨j, a, b, c⟩; exact ⟨j, a, by omega, c⟩
  | succ n ih =>
    intro x k h1 h2 hx q
    have hr := iq_chR (p := g 14 1) (down := g 14 4) (gen := gen) (root := root) (k := k) (by omega)
    have hS := iq_chS (p := g 14 1) (down := g 14 4) (gen := gen) (root := root) (k := k) (by omega) hg.1 hg.2
    have hx' : ∀ t, iq_tb (x ||| iq_of (iq_ch (g 14 1) (g 14 4) gen root k)) t = true ↔ ∃ j, 0 ≤ j ∧ j < k + 1 ∧ iq_ch (g 14 1) (g 14 4) gen root j = t := by
      intro t
      rw [iq_tb_or, Bool.or_eq_true, hx t, iq_tbof]
      simp only [Bool.and_eq_true, decide_eq_true_eq]
      constructor
      · rintro (⟨j, a, b, c⟩ | ⟨-, c⟩)
        · exact ⟨j, a, by omega, c⟩
        · exact ⟨k, h1, by omega, c.symm⟩
      · rintro ⟨j, a, b, c⟩
        by_cases e : j = k
        · right
          rw [e] at c
          exact ⟨⟨hr.1, by omega⟩, c.symm⟩
        · left
          exact ⟨j, a, by omega, c⟩
    refine B8_p22_13 _ _ _ _ _ _ _ _ ⟨by omega, fun h => by omega, fun h => sp6 (by omega) ⟨_, rfl, by omega, fun h3 => ?_, fun h3 => ?_⟩⟩
    · have := ih (x ||| iq_of (iq_ch (g 14 1) (g 14 4) gen root k)) (k + 1) (by omega) (by omega) hx' q
      rw [hS, if_pos h3, show iq_ch (g 14 1) (g 14 4) gen root k + gen = (iq_ch (g 14 1) (g 14 4) gen root k + gen) - 0 by omega] at this
      exact this
    · have := ih (x ||| iq_of (iq_ch (g 14 1) (g 14 4) gen root k)) (k + 1) (by omega) (by omega) hx' q
      rw [hS, if_neg (by omega)] at this
      exact this
theorem sp8_13 {N : Nat} {xs : Nat → Int32} {Q : iq_T} {g : iq_I} {l : iq_J} {gen root len : Int} (hp : iq_pb (g 14)) (hg : 0 ≤ gen ∧ gen < g 14 1) (hr : 0 ≤ root ∧ root < 60) (hl : 0 ≤ len ∧ len ≤ 24) (q : ∀ y, (∀ t, iq_tb y t = true ↔ ∃ j, 0 ≤ j ∧ j < len ∧ iq_ch (g 14 1) (g 14 4) gen root j = t) → Q (some (iq_l y)) g l) : iq_P N xs 8 0 [some (iq_r 13), some (iq_i gen), some (iq_i root), some (iq_i len), none, none, none, none] [] g l Q := by
  have hp' := hp
  obtain ⟨p0, p1, p2, p3, p4, p5, p6, p7, p8⟩ := hp
  have hm := iq_mulR (a := g 14 4) (b := gen) (x := 23) (y := 60) (by omega) (by omega) (by omega) (by omega)
  refine B8_13 _ _ _ _ _ (sp5_13 (by omega) (by omega) ⟨_, rfl, ?_⟩)
  have e : (root - g 14 4 * gen) % g 14 1 = iq_ch (g 14 1) (g 14 4) gen root 0 := by
    unfold iq_ch
    congr 1
    rw [Int.sub_mul]
    omega
  rw [e]
  refine sp8_p13 hp' hg hl len.toNat 0 0 (by omega) (by omega) (fun t => ?_) q
  rw [iq_tb_0]
  constructor
  · intro h; cases h
  · rintro ⟨j, a, b, c⟩; omega
theorem sp135_23 {N : Nat} {xs : Nat → Int32} {Q : iq_T} {g : iq_I} {l : iq_J} {a0 : Int} (h1 : 0 ≤ a0 ∧ a0 < 9) (q : Q (some (iq_i (g 24 a0))) g l) : iq_P N xs 135 0 [some (iq_r 23), some (iq_i a0)] [] g l Q :=
  B135_23 _ _ _ ⟨by omega, fun h => by omega, fun h => ⟨by omega, fun h => by omega, fun h => ⟨by omega, q⟩⟩⟩
theorem sp135_44 {N : Nat} {xs : Nat → Int32} {Q : iq_T} {g : iq_I} {l : iq_J} {a0 : Int} (h1 : 0 ≤ a0 ∧ a0 < 9) (q : Q (some (iq_i (g 45 a0))) g l) : iq_P N xs 135 0 [some (iq_r 44), some (iq_i a0)] [] g l Q :=
  B135_44 _ _ _ ⟨by omega, fun h => by omega, fun h => ⟨by omega, fun h => by omega, fun h => ⟨by omega, q⟩⟩⟩
theorem sp83_23 {N : Nat} {xs : Nat → Int32} {Q : iq_T} {g : iq_I} {l : iq_J} {a0 a1 : Int} (h1 : 0 ≤ a0 ∧ a0 < 9) (q : Q none (iq_uz g 24 a0 a1) l) : iq_P N xs 83 0 [some (iq_r 23), some (iq_i a0), some (iq_i a1)] [] g l Q :=
  B83_23 _ _ _ _ ⟨by omega, fun h => by omega, fun h => ⟨by omega, fun h => by omega, fun h => ⟨by omega, q⟩⟩⟩
theorem sp83_13 {N : Nat} {xs : Nat → Int32} {Q : iq_T} {g : iq_I} {l : iq_J} {a0 a1 : Int} (h1 : 0 ≤ a0 ∧ a0 < 9) (q : Q none (iq_uz g 14 a0 a1) l) : iq_P N xs 83 0 [some (iq_r 13), some (iq_i a0), some (iq_i a1)] [] g l Q :=
  B83_13 _ _ _ _ ⟨by omega, fun h => by omega, fun h => ⟨by omega, fun h => by omega, fun h => ⟨by omega, q⟩⟩⟩
theorem sp89_23 {N : Nat} {xs : Nat → Int32} {Q : iq_T} {g : iq_I} {l : iq_J} (q : Q (some (iq_i (iq_cn (iq_tb (l 23 4)) 64))) g l) : iq_P N xs 89 0 [some (iq_r 23)] [] g l Q :=
  B89_23 _ _ (sp88 ⟨_, rfl, q⟩)
theorem sp147_23 {N : Nat} {xs : Nat → Int32} {Q : iq_T} {g : iq_I} {l : iq_J} {a0 : Int} (hp : iq_pb (g 24)) (h1 : -100 ≤ a0 ∧ a0 ≤ 100) (q : Q (some (iq_i (iq_ch (g 24 1) (g 24 4) (g 24 2) (g 24 5) a0))) g l) : iq_P N xs 147 0 [some (iq_r 23), some (iq_i a0)] [] g l Q := by
  obtain ⟨p0, p1, p2, p3, p4, p5, p6, p7, p8⟩ := hp
  have hm : -7380 ≤ (a0 - g 24 4) * g 24 2 ∧ (a0 - g 24 4) * g 24 2 ≤ 14760 := by
    have := iq_mulR (a := a0 - g 24 4 + 123) (b := g 24 2) (x := 246) (y := 60) (by omega) (by omega) (by omega) (by omega)
    rw [Int.add_mul] at this
    omega
  exact B147_23 _ _ _ (sp5_23 (by omega) (by omega) ⟨_, rfl, q⟩)
theorem sp155_23 {N : Nat} {xs : Nat → Int32} {Q : iq_T} {g : iq_I} {l : iq_J} {a0 : Int} (h1 : -2147483648 ≤ a0 ∧ a0 ≤ 2147483647) (q1 : iq_tb (l 23 4) a0 = true → Q (some (iq_i 1)) g l) (q0 : iq_tb (l 23 4) a0 = false → Q (some (iq_i 0)) g l) : iq_P N xs 155 0 [some (iq_r 23), some (iq_i a0)] [] g l Q :=
  B155_23 _ _ _ (sp74 h1 (fun h => ⟨_, rfl, .inr rfl, q1 h⟩) (fun h => ⟨_, rfl, .inl rfl, q0 h⟩))
theorem sp155_44 {N : Nat} {xs : Nat → Int32} {Q : iq_T} {g : iq_I} {l : iq_J} {a0 : Int} (h1 : -2147483648 ≤ a0 ∧ a0 ≤ 2147483647) (q1 : iq_tb (l 44 4) a0 = true → Q (some (iq_i 1)) g l) (q0 : iq_tb (l 44 4) a0 = false → Q (some (iq_i 0)) g l) : iq_P N xs 155 0 [some (iq_r 44), some (iq_i a0)] [] g l Q :=
  B155_44 _ _ _ (sp74 h1 (fun h => ⟨_, rfl, .inr rfl, q1 h⟩) (fun h => ⟨_, rfl, .inl rfl, q0 h⟩))
theorem sp189_23 {N : Nat} {xs : Nat → Int32} {Q : iq_T} {g : iq_I} {l : iq_J} (q : Q (some (iq_i (iq_cn (iq_tb (l 23 3 &&& l 23 4)) 64))) g l) : iq_P N xs 189 0 [some (iq_r 23)] [] g l Q :=
  B189_23 _ _ (sp88 ⟨_, rfl, q⟩)
theorem sp189_44 {N : Nat} {xs : Nat → Int32} {Q : iq_T} {g : iq_I} {l : iq_J} (q : Q (some (iq_i (iq_cn (iq_tb (l 44 3 &&& l 44 4)) 64))) g l) : iq_P N xs 189 0 [some (iq_r 44)] [] g l Q :=
  B189_44 _ _ (sp88 ⟨_, rfl, q⟩)
theorem sp228 {N : Nat} {xs : Nat → Int32} {Q : iq_T} {g : iq_I} {l : iq_J} {a0 : Int} (hp : iq_pb (g 24)) (h1 : -2147483648 < a0 ∧ a0 ≤ 2147483647) (q : Q (some (iq_i (a0 % g 24 6))) g l) : iq_P N xs 228 0 [some (iq_r 23), some (iq_i a0)] [] g l Q := by
  obtain ⟨p0, p1, p2, p3, p4, p5, p6, p7, p8⟩ := hp
  exact B228_23 _ _ _ ⟨by omega, fun h => by omega, fun h => sp4 h1 (by omega) ⟨_, rfl, q⟩⟩
theorem sp233 {N : Nat} {xs : Nat → Int32} {Q : iq_T} {g : iq_I} {l : iq_J} {a0 : Int} (hp : iq_pb (g 24)) (h1 : -2147483648 < a0 ∧ a0 ≤ 2147483647) (q : Q (some (iq_i (a0 / g 24 6))) g l) : iq_P N xs 233 0 [some (iq_r 23), some (iq_i a0)] [] g l Q := by
  obtain ⟨p0, p1, p2, p3, p4, p5, p6, p7, p8⟩ := hp
  exact B233_23 _ _ _ ⟨by omega, fun h => by omega, fun h => sp232 h1 (by omega) ⟨_, rfl, q⟩⟩
theorem sp245 {N : Nat} {xs : Nat → Int32} {Q : iq_T} {g : iq_I} {l : iq_J} {a0 a1 : Int} (hp : iq_pb (g 24)) (h1 : 0 ≤ a0 ∧ a0 ≤ 100) (h2 : 0 ≤ a1 ∧ a1 ≤ 100) (q : Q (some (iq_i ((a0 * g 24 7 + a1 * g 24 8) % g 24 1))) g l) : iq_P N xs 245 0 [some (iq_r 23), some (iq_i a0), some (iq_i a1)] [] g l Q := by
  obtain ⟨p0, p1, p2, p3, p4, p5, p6, p7, p8⟩ := hp
  have m1 := iq_mulR (a := a0) (b := g 24 7) (x := 100) (y := 60) (by omega) (by omega) (by omega) (by omega)
  have m2 := iq_mulR (a := a1) (b := g 24 8) (x := 100) (y := 60) (by omega) (by omega) (by omega) (by omega)
  exact B245_23 _ _ _ _ (sp5_23 (by omega) (by omega) ⟨_, rfl, q⟩)
/-! how calls end -/
theorem sp90 {N : Nat} {xs : Nat → Int32} {Q : iq_T} {g : iq_I} {l : iq_J} {a0 : Int} (q : Q (some (iq_i a0)) (iq_uz g 0 0 0) l) : iq_P N xs 90 0 [some (iq_r 0), some (iq_i a0)] [] g l Q := B90_0 _ _ _ q
theorem sp44 {N : Nat} {xs : Nat → Int32} {Q : iq_T} {g : iq_I} {l : iq_J} {a0 : Int} (q : Q (some (iq_i (-1))) (iq_uz g 0 0 a0) l) : iq_P N xs 44 0 [some (iq_r 0), some (iq_i a0)] [] g l Q := B44_0 _ _ _ q
theorem sp30 {N : Nat} {xs : Nat → Int32} {Q : iq_T} {g : iq_I} {l : iq_J} (q : Q (some (iq_i 1)) (iq_uz g 0 0 0) l) : iq_P N xs 30 0 [some (iq_r 0)] [] g l Q := B30_0 _ _ q
theorem sp28 {N : Nat} {xs : Nat → Int32} {Q : iq_T} {g : iq_I} {l : iq_J} {a0 : Int} (q : Q (some (iq_i 0)) (iq_uz g 0 0 a0) l) : iq_P N xs 28 0 [some (iq_r 0), some (iq_i a0)] [] g l Q := B28_0 _ _ _ q
theorem sp167 {N : Nat} {xs : Nat → Int32} {Q : iq_T} {g : iq_I} {l : iq_J} {a0 : Int} (h : -2147483648 ≤ a0 ∧ a0 ≤ 2147483647) (q1 : a0 = -1 → Q (some (iq_i (-1))) (iq_uz g 0 0 6) l) (q0 : ¬ a0 = -1 → Q (some (iq_i a0)) (iq_uz g 0 0 0) l) : iq_P N xs 167 0 [some (iq_r 0), some (iq_i a0)] [] g l Q := by
  refine B167_0 _ _ _ ⟨by omega, fun h => ?_, fun h => ?_⟩
  · exact sp90 ⟨_, rfl, q0 h⟩
  · exact sp44 ⟨_, rfl, q1 h⟩
