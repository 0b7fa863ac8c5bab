/-! Texts: the words. -/
-- jdk/internal/util/Preconditions.checkIndex(IILjava/util/function/BiFunction;)I at 0
set_option maxRecDepth 20000 in
theorem B68 {N : Nat} {xs : Nat → Int32} {Q : iq_T} (a0 : Int) (a1 : Int) (g : iq_I) (l : iq_J) (H : (-2147483648 ≤ a0 ∧ a0 ≤ 2147483647) ∧
    (a0 < (0 : Int) → (False)) ∧
    ((0 : Int) ≤ a0 → ((-2147483648 ≤ a0 ∧ a0 ≤ 2147483647 ∧ -2147483648 ≤ a1 ∧ a1 ≤ 2147483647) ∧
      (a0 < a1 → (Q (some (iq_i a0)) g l)) ∧
      (a1 ≤ a0 → (False))))) :
    iq_P N xs 68 0 [some (iq_i a0), some (iq_i a1), some (iq_r 1999999)] [] g l Q := iq_w_ok (cuts := []) 7 0 _ _ _ _ H

/-- a string's sign -/
def sf_sgn (i : Nat) (k : Int) : Int := iq_i2c (iq_and (((ij_sb.getD i []).getD (Int.toNat k) 0).toInt) 255)
def sf_eq (A : Int → Int) (s : Int) (c : Int → Int) : Nat → Bool
  | 0 => true
  | j + 1 => sf_eq A s c j && decide (A (s + j) = c j)
def sf_wd (A : Int → Int) (s e : Int) (c : Int → Int) (L : Nat) : Bool := decide (e - s = L) && sf_eq A s c L
theorem sf_eqi {A : Int → Int} {s : Int} {c : Int → Int} : ∀ L : Nat, sf_eq A s c L = true ↔ ∀ j : Nat, j < L → A (s + j) = c j := by
  intro L
  induction L with
  | zero => exact ⟨fun _ j h => by omega, fun _ => rfl⟩
  | succ L ih =>
    rw [sf_eq, Bool.and_eq_true, ih, decide_eq_true_eq]
    constructor
    · intro h j hj
      by_cases e : j = L
      · rw [e]; exact h.2
      · exact h.1 j (by omega)
    · intro h
      exact ⟨fun j hj => h j (by omega), h L (by omega)⟩
theorem sf_eqn {A : Int → Int} {s : Int} {c : Int → Int} {L k : Nat} (h : k < L) (n : ¬ A (s + k) = c k) : sf_eq A s c L = false := by
  rcases hb : sf_eq A s c L with _ | _
  · rfl
  · exact absurd ((sf_eqi L).mp hb k h) n
theorem sf_cR_0 : ∀ k : Fin 4, 0 ≤ sf_sgn 0 (k.val : Int) ∧ sf_sgn 0 (k.val : Int) ≤ 255 := by decide +kernel
theorem sp71_0 {N : Nat} {xs : Nat → Int32} {Q : iq_T} {g : iq_I} {l : iq_J} {k : Int} (hk : 0 ≤ k ∧ k < 4) (q : (0 ≤ sf_sgn 0 k ∧ sf_sgn 0 k ≤ 255) → Q (some (iq_i (sf_sgn 0 k))) g l) : iq_P N xs 71 0 [some (iq_r 1000010), some (iq_i k)] [] g l Q := by
  have c := sf_cR_0 ⟨k.toNat, by omega⟩
  simp only [Int.toNat_of_nonneg hk.1] at c
  have c' : 0 ≤ sf_sgn 0 k ∧ sf_sgn 0 k ≤ 65535 := by omega
  exact B71_1000010 _ _ _ (B67_1000010 _ _ ⟨_, rfl, by omega, fun h => by omega, fun _ => B70_1000060 _ _ _ (B69 _ _ _ _ (B68 _ _ _ _ ⟨by omega, fun h => by omega, fun _ => ⟨by omega, fun _ => ⟨_, rfl, rfl, by omega, c', _, rfl, c', q c⟩, fun h => by omega⟩⟩))⟩)
theorem sp66_0 {N : Nat} {xs : Nat → Int32} {Q : iq_T} {g : iq_I} {l : iq_J} (q : Q (some (iq_i 4)) g l) : iq_P N xs 66 0 [some (iq_r 1000010)] [] g l Q := by
  have e : iq_shr 4 0 = 4 := by decide +kernel
  refine B66_1000010 _ _ (B65_1000010 _ _ ⟨by omega, _, rfl, ?_⟩)
  rw [e]
  exact q
theorem sf_cR_1 : ∀ k : Fin 6, 0 ≤ sf_sgn 1 (k.val : Int) ∧ sf_sgn 1 (k.val : Int) ≤ 255 := by decide +kernel
theorem sp71_1 {N : Nat} {xs : Nat → Int32} {Q : iq_T} {g : iq_I} {l : iq_J} {k : Int} (hk : 0 ≤ k ∧ k < 6) (q : (0 ≤ sf_sgn 1 k ∧ sf_sgn 1 k ≤ 255) → Q (some (iq_i (sf_sgn 1 k))) g l) : iq_P N xs 71 0 [some (iq_r 1000011), some (iq_i k)] [] g l Q := by
  have c := sf_cR_1 ⟨k.toNat, by omega⟩
  simp only [Int.toNat_of_nonneg hk.1] at c
  have c' : 0 ≤ sf_sgn 1 k ∧ sf_sgn 1 k ≤ 65535 := by omega
  exact B71_1000011 _ _ _ (B67_1000011 _ _ ⟨_, rfl, by omega, fun h => by omega, fun _ => B70_1000061 _ _ _ (B69 _ _ _ _ (B68 _ _ _ _ ⟨by omega, fun h => by omega, fun _ => ⟨by omega, fun _ => ⟨_, rfl, rfl, by omega, c', _, rfl, c', q c⟩, fun h => by omega⟩⟩))⟩)
theorem sp66_1 {N : Nat} {xs : Nat → Int32} {Q : iq_T} {g : iq_I} {l : iq_J} (q : Q (some (iq_i 6)) g l) : iq_P N xs 66 0 [some (iq_r 1000011)] [] g l Q := by
  have e : iq_shr 6 0 = 6 := by decide +kernel
  refine B66_1000011 _ _ (B65_1000011 _ _ ⟨by omega, _, rfl, ?_⟩)
  rw [e]
  exact q
theorem sf_cR_2 : ∀ k : Fin 9, 0 ≤ sf_sgn 2 (k.val : Int) ∧ sf_sgn 2 (k.val : Int) ≤ 255 := by decide +kernel
theorem sp71_2 {N : Nat} {xs : Nat → Int32} {Q : iq_T} {g : iq_I} {l : iq_J} {k : Int} (hk : 0 ≤ k ∧ k < 9) (q : (0 ≤ sf_sgn 2 k ∧ sf_sgn 2 k ≤ 255) → Q (some (iq_i (sf_sgn 2 k))) g l) : iq_P N xs 71 0 [some (iq_r 1000012), some (iq_i k)] [] g l Q := by
  have c := sf_cR_2 ⟨k.toNat, by omega⟩
  simp only [Int.toNat_of_nonneg hk.1] at c
  have c' : 0 ≤ sf_sgn 2 k ∧ sf_sgn 2 k ≤ 65535 := by omega
  exact B71_1000012 _ _ _ (B67_1000012 _ _ ⟨_, rfl, by omega, fun h => by omega, fun _ => B70_1000062 _ _ _ (B69 _ _ _ _ (B68 _ _ _ _ ⟨by omega, fun h => by omega, fun _ => ⟨by omega, fun _ => ⟨_, rfl, rfl, by omega, c', _, rfl, c', q c⟩, fun h => by omega⟩⟩))⟩)
theorem sp66_2 {N : Nat} {xs : Nat → Int32} {Q : iq_T} {g : iq_I} {l : iq_J} (q : Q (some (iq_i 9)) g l) : iq_P N xs 66 0 [some (iq_r 1000012)] [] g l Q := by
  have e : iq_shr 9 0 = 9 := by decide +kernel
  refine B66_1000012 _ _ (B65_1000012 _ _ ⟨by omega, _, rfl, ?_⟩)
  rw [e]
  exact q
theorem sf_cR_3 : ∀ k : Fin 6, 0 ≤ sf_sgn 3 (k.val : Int) ∧ sf_sgn 3 (k.val : Int) ≤ 255 := by decide +kernel
theorem sp71_3 {N : Nat} {xs : Nat → Int32} {Q : iq_T} {g : iq_I} {l : iq_J} {k : Int} (hk : 0 ≤ k ∧ k < 6) (q : (0 ≤ sf_sgn 3 k ∧ sf_sgn 3 k ≤ 255) → Q (some (iq_i (sf_sgn 3 k))) g l) : iq_P N xs 71 0 [some (iq_r 1000013), some (iq_i k)] [] g l Q := by
  have c := sf_cR_3 ⟨k.toNat, by omega⟩
  simp only [Int.toNat_of_nonneg hk.1] at c
  have c' : 0 ≤ sf_sgn 3 k ∧ sf_sgn 3 k ≤ 65535 := by omega
  exact B71_1000013 _ _ _ (B67_1000013 _ _ ⟨_, rfl, by omega, fun h => by omega, fun _ => B70_1000063 _ _ _ (B69 _ _ _ _ (B68 _ _ _ _ ⟨by omega, fun h => by omega, fun _ => ⟨by omega, fun _ => ⟨_, rfl, rfl, by omega, c', _, rfl, c', q c⟩, fun h => by omega⟩⟩))⟩)
theorem sp66_3 {N : Nat} {xs : Nat → Int32} {Q : iq_T} {g : iq_I} {l : iq_J} (q : Q (some (iq_i 6)) g l) : iq_P N xs 66 0 [some (iq_r 1000013)] [] g l Q := by
  have e : iq_shr 6 0 = 6 := by decide +kernel
  refine B66_1000013 _ _ (B65_1000013 _ _ ⟨by omega, _, rfl, ?_⟩)
  rw [e]
  exact q
theorem sf_cR_4 : ∀ k : Fin 4, 0 ≤ sf_sgn 4 (k.val : Int) ∧ sf_sgn 4 (k.val : Int) ≤ 255 := by decide +kernel
theorem sp71_4 {N : Nat} {xs : Nat → Int32} {Q : iq_T} {g : iq_I} {l : iq_J} {k : Int} (hk : 0 ≤ k ∧ k < 4) (q : (0 ≤ sf_sgn 4 k ∧ sf_sgn 4 k ≤ 255) → Q (some (iq_i (sf_sgn 4 k))) g l) : iq_P N xs 71 0 [some (iq_r 1000014), some (iq_i k)] [] g l Q := by
  have c := sf_cR_4 ⟨k.toNat, by omega⟩
  simp only [Int.toNat_of_nonneg hk.1] at c
  have c' : 0 ≤ sf_sgn 4 k ∧ sf_sgn 4 k ≤ 65535 := by omega
  exact B71_1000014 _ _ _ (B67_1000014 _ _ ⟨_, rfl, by omega, fun h => by omega, fun _ => B70_1000064 _ _ _ (B69 _ _ _ _ (B68 _ _ _ _ ⟨by omega, fun h => by omega, fun _ => ⟨by omega, fun _ => ⟨_, rfl, rfl, by omega, c', _, rfl, c', q c⟩, fun h => by omega⟩⟩))⟩)
theorem sp66_4 {N : Nat} {xs : Nat → Int32} {Q : iq_T} {g : iq_I} {l : iq_J} (q : Q (some (iq_i 4)) g l) : iq_P N xs 66 0 [some (iq_r 1000014)] [] g l Q := by
  have e : iq_shr 4 0 = 4 := by decide +kernel
  refine B66_1000014 _ _ (B65_1000014 _ _ ⟨by omega, _, rfl, ?_⟩)
  rw [e]
  exact q
theorem sf_cR_5 : ∀ k : Fin 4, 0 ≤ sf_sgn 5 (k.val : Int) ∧ sf_sgn 5 (k.val : Int) ≤ 255 := by decide +kernel
theorem sp71_5 {N : Nat} {xs : Nat → Int32} {Q : iq_T} {g : iq_I} {l : iq_J} {k : Int} (hk : 0 ≤ k ∧ k < 4) (q : (0 ≤ sf_sgn 5 k ∧ sf_sgn 5 k ≤ 255) → Q (some (iq_i (sf_sgn 5 k))) g l) : iq_P N xs 71 0 [some (iq_r 1000015), some (iq_i k)] [] g l Q := by
  have c := sf_cR_5 ⟨k.toNat, by omega⟩
  simp only [Int.toNat_of_nonneg hk.1] at c
  have c' : 0 ≤ sf_sgn 5 k ∧ sf_sgn 5 k ≤ 65535 := by omega
  exact B71_1000015 _ _ _ (B67_1000015 _ _ ⟨_, rfl, by omega, fun h => by omega, fun _ => B70_1000065 _ _ _ (B69 _ _ _ _ (B68 _ _ _ _ ⟨by omega, fun h => by omega, fun _ => ⟨by omega, fun _ => ⟨_, rfl, rfl, by omega, c', _, rfl, c', q c⟩, fun h => by omega⟩⟩))⟩)
theorem sp66_5 {N : Nat} {xs : Nat → Int32} {Q : iq_T} {g : iq_I} {l : iq_J} (q : Q (some (iq_i 4)) g l) : iq_P N xs 66 0 [some (iq_r 1000015)] [] g l Q := by
  have e : iq_shr 4 0 = 4 := by decide +kernel
  refine B66_1000015 _ _ (B65_1000015 _ _ ⟨by omega, _, rfl, ?_⟩)
  rw [e]
  exact q
theorem sf_cR_6 : ∀ k : Fin 8, 0 ≤ sf_sgn 6 (k.val : Int) ∧ sf_sgn 6 (k.val : Int) ≤ 255 := by decide +kernel
theorem sp71_6 {N : Nat} {xs : Nat → Int32} {Q : iq_T} {g : iq_I} {l : iq_J} {k : Int} (hk : 0 ≤ k ∧ k < 8) (q : (0 ≤ sf_sgn 6 k ∧ sf_sgn 6 k ≤ 255) → Q (some (iq_i (sf_sgn 6 k))) g l) : iq_P N xs 71 0 [some (iq_r 1000016), some (iq_i k)] [] g l Q := by
  have c := sf_cR_6 ⟨k.toNat, by omega⟩
  simp only [Int.toNat_of_nonneg hk.1] at c
  have c' : 0 ≤ sf_sgn 6 k ∧ sf_sgn 6 k ≤ 65535 := by omega
  exact B71_1000016 _ _ _ (B67_1000016 _ _ ⟨_, rfl, by omega, fun h => by omega, fun _ => B70_1000066 _ _ _ (B69 _ _ _ _ (B68 _ _ _ _ ⟨by omega, fun h => by omega, fun _ => ⟨by omega, fun _ => ⟨_, rfl, rfl, by omega, c', _, rfl, c', q c⟩, fun h => by omega⟩⟩))⟩)
theorem sp66_6 {N : Nat} {xs : Nat → Int32} {Q : iq_T} {g : iq_I} {l : iq_J} (q : Q (some (iq_i 8)) g l) : iq_P N xs 66 0 [some (iq_r 1000016)] [] g l Q := by
  have e : iq_shr 8 0 = 8 := by decide +kernel
  refine B66_1000016 _ _ (B65_1000016 _ _ ⟨by omega, _, rfl, ?_⟩)
  rw [e]
  exact q
theorem sf_cR_7 : ∀ k : Fin 5, 0 ≤ sf_sgn 7 (k.val : Int) ∧ sf_sgn 7 (k.val : Int) ≤ 255 := by decide +kernel
theorem sp71_7 {N : Nat} {xs : Nat → Int32} {Q : iq_T} {g : iq_I} {l : iq_J} {k : Int} (hk : 0 ≤ k ∧ k < 5) (q : (0 ≤ sf_sgn 7 k ∧ sf_sgn 7 k ≤ 255) → Q (some (iq_i (sf_sgn 7 k))) g l) : iq_P N xs 71 0 [some (iq_r 1000017), some (iq_i k)] [] g l Q := by
  have c := sf_cR_7 ⟨k.toNat, by omega⟩
  simp only [Int.toNat_of_nonneg hk.1] at c
  have c' : 0 ≤ sf_sgn 7 k ∧ sf_sgn 7 k ≤ 65535 := by omega
  exact B71_1000017 _ _ _ (B67_1000017 _ _ ⟨_, rfl, by omega, fun h => by omega, fun _ => B70_1000067 _ _ _ (B69 _ _ _ _ (B68 _ _ _ _ ⟨by omega, fun h => by omega, fun _ => ⟨by omega, fun _ => ⟨_, rfl, rfl, by omega, c', _, rfl, c', q c⟩, fun h => by omega⟩⟩))⟩)
theorem sp66_7 {N : Nat} {xs : Nat → Int32} {Q : iq_T} {g : iq_I} {l : iq_J} (q : Q (some (iq_i 5)) g l) : iq_P N xs 66 0 [some (iq_r 1000017)] [] g l Q := by
  have e : iq_shr 5 0 = 5 := by decide +kernel
  refine B66_1000017 _ _ (B65_1000017 _ _ ⟨by omega, _, rfl, ?_⟩)
  rw [e]
  exact q
theorem sf_cR_8 : ∀ k : Fin 2, 0 ≤ sf_sgn 8 (k.val : Int) ∧ sf_sgn 8 (k.val : Int) ≤ 255 := by decide +kernel
theorem sp71_8 {N : Nat} {xs : Nat → Int32} {Q : iq_T} {g : iq_I} {l : iq_J} {k : Int} (hk : 0 ≤ k ∧ k < 2) (q : (0 ≤ sf_sgn 8 k ∧ sf_sgn 8 k ≤ 255) → Q (some (iq_i (sf_sgn 8 k))) g l) : iq_P N xs 71 0 [some (iq_r 1000018), some (iq_i k)] [] g l Q := by
  have c := sf_cR_8 ⟨k.toNat, by omega⟩
  simp only [Int.toNat_of_nonneg hk.1] at c
  have c' : 0 ≤ sf_sgn 8 k ∧ sf_sgn 8 k ≤ 65535 := by omega
  exact B71_1000018 _ _ _ (B67_1000018 _ _ ⟨_, rfl, by omega, fun h => by omega, fun _ => B70_1000068 _ _ _ (B69 _ _ _ _ (B68 _ _ _ _ ⟨by omega, fun h => by omega, fun _ => ⟨by omega, fun _ => ⟨_, rfl, rfl, by omega, c', _, rfl, c', q c⟩, fun h => by omega⟩⟩))⟩)
theorem sp66_8 {N : Nat} {xs : Nat → Int32} {Q : iq_T} {g : iq_I} {l : iq_J} (q : Q (some (iq_i 2)) g l) : iq_P N xs 66 0 [some (iq_r 1000018)] [] g l Q := by
  have e : iq_shr 2 0 = 2 := by decide +kernel
  refine B66_1000018 _ _ (B65_1000018 _ _ ⟨by omega, _, rfl, ?_⟩)
  rw [e]
  exact q
theorem sf_cR_9 : ∀ k : Fin 6, 0 ≤ sf_sgn 9 (k.val : Int) ∧ sf_sgn 9 (k.val : Int) ≤ 255 := by decide +kernel
theorem sp71_9 {N : Nat} {xs : Nat → Int32} {Q : iq_T} {g : iq_I} {l : iq_J} {k : Int} (hk : 0 ≤ k ∧ k < 6) (q : (0 ≤ sf_sgn 9 k ∧ sf_sgn 9 k ≤ 255) → Q (some (iq_i (sf_sgn 9 k))) g l) : iq_P N xs 71 0 [some (iq_r 1000019), some (iq_i k)] [] g l Q := by
  have c := sf_cR_9 ⟨k.toNat, by omega⟩
  simp only [Int.toNat_of_nonneg hk.1] at c
  have c' : 0 ≤ sf_sgn 9 k ∧ sf_sgn 9 k ≤ 65535 := by omega
  exact B71_1000019 _ _ _ (B67_1000019 _ _ ⟨_, rfl, by omega, fun h => by omega, fun _ => B70_1000069 _ _ _ (B69 _ _ _ _ (B68 _ _ _ _ ⟨by omega, fun h => by omega, fun _ => ⟨by omega, fun _ => ⟨_, rfl, rfl, by omega, c', _, rfl, c', q c⟩, fun h => by omega⟩⟩))⟩)
theorem sp66_9 {N : Nat} {xs : Nat → Int32} {Q : iq_T} {g : iq_I} {l : iq_J} (q : Q (some (iq_i 6)) g l) : iq_P N xs 66 0 [some (iq_r 1000019)] [] g l Q := by
  have e : iq_shr 6 0 = 6 := by decide +kernel
  refine B66_1000019 _ _ (B65_1000019 _ _ ⟨by omega, _, rfl, ?_⟩)
  rw [e]
  exact q
theorem sf_cR_10 : ∀ k : Fin 3, 0 ≤ sf_sgn 10 (k.val : Int) ∧ sf_sgn 10 (k.val : Int) ≤ 255 := by decide +kernel
theorem sp71_10 {N : Nat} {xs : Nat → Int32} {Q : iq_T} {g : iq_I} {l : iq_J} {k : Int} (hk : 0 ≤ k ∧ k < 3) (q : (0 ≤ sf_sgn 10 k ∧ sf_sgn 10 k ≤ 255) → Q (some (iq_i (sf_sgn 10 k))) g l) : iq_P N xs 71 0 [some (iq_r 1000020), some (iq_i k)] [] g l Q := by
  have c := sf_cR_10 ⟨k.toNat, by omega⟩
  simp only [Int.toNat_of_nonneg hk.1] at c
  have c' : 0 ≤ sf_sgn 10 k ∧ sf_sgn 10 k ≤ 65535 := by omega
  exact B71_1000020 _ _ _ (B67_1000020 _ _ ⟨_, rfl, by omega, fun h => by omega, fun _ => B70_1000070 _ _ _ (B69 _ _ _ _ (B68 _ _ _ _ ⟨by omega, fun h => by omega, fun _ => ⟨by omega, fun _ => ⟨_, rfl, rfl, by omega, c', _, rfl, c', q c⟩, fun h => by omega⟩⟩))⟩)
theorem sp66_10 {N : Nat} {xs : Nat → Int32} {Q : iq_T} {g : iq_I} {l : iq_J} (q : Q (some (iq_i 3)) g l) : iq_P N xs 66 0 [some (iq_r 1000020)] [] g l Q := by
  have e : iq_shr 3 0 = 3 := by decide +kernel
  refine B66_1000020 _ _ (B65_1000020 _ _ ⟨by omega, _, rfl, ?_⟩)
  rw [e]
  exact q
theorem sf_cR_11 : ∀ k : Fin 5, 0 ≤ sf_sgn 11 (k.val : Int) ∧ sf_sgn 11 (k.val : Int) ≤ 255 := by decide +kernel
theorem sp71_11 {N : Nat} {xs : Nat → Int32} {Q : iq_T} {g : iq_I} {l : iq_J} {k : Int} (hk : 0 ≤ k ∧ k < 5) (q : (0 ≤ sf_sgn 11 k ∧ sf_sgn 11 k ≤ 255) → Q (some (iq_i (sf_sgn 11 k))) g l) : iq_P N xs 71 0 [some (iq_r 1000021), some (iq_i k)] [] g l Q := by
  have c := sf_cR_11 ⟨k.toNat, by omega⟩
  simp only [Int.toNat_of_nonneg hk.1] at c
  have c' : 0 ≤ sf_sgn 11 k ∧ sf_sgn 11 k ≤ 65535 := by omega
  exact B71_1000021 _ _ _ (B67_1000021 _ _ ⟨_, rfl, by omega, fun h => by omega, fun _ => B70_1000071 _ _ _ (B69 _ _ _ _ (B68 _ _ _ _ ⟨by omega, fun h => by omega, fun _ => ⟨by omega, fun _ => ⟨_, rfl, rfl, by omega, c', _, rfl, c', q c⟩, fun h => by omega⟩⟩))⟩)
theorem sp66_11 {N : Nat} {xs : Nat → Int32} {Q : iq_T} {g : iq_I} {l : iq_J} (q : Q (some (iq_i 5)) g l) : iq_P N xs 66 0 [some (iq_r 1000021)] [] g l Q := by
  have e : iq_shr 5 0 = 5 := by decide +kernel
  refine B66_1000021 _ _ (B65_1000021 _ _ ⟨by omega, _, rfl, ?_⟩)
  rw [e]
  exact q
theorem sf_cR_12 : ∀ k : Fin 4, 0 ≤ sf_sgn 12 (k.val : Int) ∧ sf_sgn 12 (k.val : Int) ≤ 255 := by decide +kernel
theorem sp71_12 {N : Nat} {xs : Nat → Int32} {Q : iq_T} {g : iq_I} {l : iq_J} {k : Int} (hk : 0 ≤ k ∧ k < 4) (q : (0 ≤ sf_sgn 12 k ∧ sf_sgn 12 k ≤ 255) → Q (some (iq_i (sf_sgn 12 k))) g l) : iq_P N xs 71 0 [some (iq_r 1000022), some (iq_i k)] [] g l Q := by
  have c := sf_cR_12 ⟨k.toNat, by omega⟩
  simp only [Int.toNat_of_nonneg hk.1] at c
  have c' : 0 ≤ sf_sgn 12 k ∧ sf_sgn 12 k ≤ 65535 := by omega
  exact B71_1000022 _ _ _ (B67_1000022 _ _ ⟨_, rfl, by omega, fun h => by omega, fun _ => B70_1000072 _ _ _ (B69 _ _ _ _ (B68 _ _ _ _ ⟨by omega, fun h => by omega, fun _ => ⟨by omega, fun _ => ⟨_, rfl, rfl, by omega, c', _, rfl, c', q c⟩, fun h => by omega⟩⟩))⟩)
theorem sp66_12 {N : Nat} {xs : Nat → Int32} {Q : iq_T} {g : iq_I} {l : iq_J} (q : Q (some (iq_i 4)) g l) : iq_P N xs 66 0 [some (iq_r 1000022)] [] g l Q := by
  have e : iq_shr 4 0 = 4 := by decide +kernel
  refine B66_1000022 _ _ (B65_1000022 _ _ ⟨by omega, _, rfl, ?_⟩)
  rw [e]
  exact q
theorem sf_cR_13 : ∀ k : Fin 4, 0 ≤ sf_sgn 13 (k.val : Int) ∧ sf_sgn 13 (k.val : Int) ≤ 255 := by decide +kernel
theorem sp71_13 {N : Nat} {xs : Nat → Int32} {Q : iq_T} {g : iq_I} {l : iq_J} {k : Int} (hk : 0 ≤ k ∧ k < 4) (q : (0 ≤ sf_sgn 13 k ∧ sf_sgn 13 k ≤ 255) → Q (some (iq_i (sf_sgn 13 k))) g l) : iq_P N xs 71 0 [some (iq_r 1000023), some (iq_i k)] [] g l Q := by
  have c := sf_cR_13 ⟨k.toNat, by omega⟩
  simp only [Int.toNat_of_nonneg hk.1] at c
  have c' : 0 ≤ sf_sgn 13 k ∧ sf_sgn 13 k ≤ 65535 := by omega
  exact B71_1000023 _ _ _ (B67_1000023 _ _ ⟨_, rfl, by omega, fun h => by omega, fun _ => B70_1000073 _ _ _ (B69 _ _ _ _ (B68 _ _ _ _ ⟨by omega, fun h => by omega, fun _ => ⟨by omega, fun _ => ⟨_, rfl, rfl, by omega, c', _, rfl, c', q c⟩, fun h => by omega⟩⟩))⟩)
theorem sp66_13 {N : Nat} {xs : Nat → Int32} {Q : iq_T} {g : iq_I} {l : iq_J} (q : Q (some (iq_i 4)) g l) : iq_P N xs 66 0 [some (iq_r 1000023)] [] g l Q := by
  have e : iq_shr 4 0 = 4 := by decide +kernel
  refine B66_1000023 _ _ (B65_1000023 _ _ ⟨by omega, _, rfl, ?_⟩)
  rw [e]
  exact q
theorem sf_cR_14 : ∀ k : Fin 3, 0 ≤ sf_sgn 14 (k.val : Int) ∧ sf_sgn 14 (k.val : Int) ≤ 255 := by decide +kernel
theorem sp71_14 {N : Nat} {xs : Nat → Int32} {Q : iq_T} {g : iq_I} {l : iq_J} {k : Int} (hk : 0 ≤ k ∧ k < 3) (q : (0 ≤ sf_sgn 14 k ∧ sf_sgn 14 k ≤ 255) → Q (some (iq_i (sf_sgn 14 k))) g l) : iq_P N xs 71 0 [some (iq_r 1000024), some (iq_i k)] [] g l Q := by
  have c := sf_cR_14 ⟨k.toNat, by omega⟩
  simp only [Int.toNat_of_nonneg hk.1] at c
  have c' : 0 ≤ sf_sgn 14 k ∧ sf_sgn 14 k ≤ 65535 := by omega
  exact B71_1000024 _ _ _ (B67_1000024 _ _ ⟨_, rfl, by omega, fun h => by omega, fun _ => B70_1000074 _ _ _ (B69 _ _ _ _ (B68 _ _ _ _ ⟨by omega, fun h => by omega, fun _ => ⟨by omega, fun _ => ⟨_, rfl, rfl, by omega, c', _, rfl, c', q c⟩, fun h => by omega⟩⟩))⟩)
theorem sp66_14 {N : Nat} {xs : Nat → Int32} {Q : iq_T} {g : iq_I} {l : iq_J} (q : Q (some (iq_i 3)) g l) : iq_P N xs 66 0 [some (iq_r 1000024)] [] g l Q := by
  have e : iq_shr 3 0 = 3 := by decide +kernel
  refine B66_1000024 _ _ (B65_1000024 _ _ ⟨by omega, _, rfl, ?_⟩)
  rw [e]
  exact q
theorem sf_cR_15 : ∀ k : Fin 4, 0 ≤ sf_sgn 15 (k.val : Int) ∧ sf_sgn 15 (k.val : Int) ≤ 255 := by decide +kernel
theorem sp71_15 {N : Nat} {xs : Nat → Int32} {Q : iq_T} {g : iq_I} {l : iq_J} {k : Int} (hk : 0 ≤ k ∧ k < 4) (q : (0 ≤ sf_sgn 15 k ∧ sf_sgn 15 k ≤ 255) → Q (some (iq_i (sf_sgn 15 k))) g l) : iq_P N xs 71 0 [some (iq_r 1000025), some (iq_i k)] [] g l Q := by
  have c := sf_cR_15 ⟨k.toNat, by omega⟩
  simp only [Int.toNat_of_nonneg hk.1] at c
  have c' : 0 ≤ sf_sgn 15 k ∧ sf_sgn 15 k ≤ 65535 := by omega
  exact B71_1000025 _ _ _ (B67_1000025 _ _ ⟨_, rfl, by omega, fun h => by omega, fun _ => B70_1000075 _ _ _ (B69 _ _ _ _ (B68 _ _ _ _ ⟨by omega, fun h => by omega, fun _ => ⟨by omega, fun _ => ⟨_, rfl, rfl, by omega, c', _, rfl, c', q c⟩, fun h => by omega⟩⟩))⟩)
theorem sp66_15 {N : Nat} {xs : Nat → Int32} {Q : iq_T} {g : iq_I} {l : iq_J} (q : Q (some (iq_i 4)) g l) : iq_P N xs 66 0 [some (iq_r 1000025)] [] g l Q := by
  have e : iq_shr 4 0 = 4 := by decide +kernel
  refine B66_1000025 _ _ (B65_1000025 _ _ ⟨by omega, _, rfl, ?_⟩)
  rw [e]
  exact q
theorem sf_cR_16 : ∀ k : Fin 4, 0 ≤ sf_sgn 16 (k.val : Int) ∧ sf_sgn 16 (k.val : Int) ≤ 255 := by decide +kernel
theorem sp71_16 {N : Nat} {xs : Nat → Int32} {Q : iq_T} {g : iq_I} {l : iq_J} {k : Int} (hk : 0 ≤ k ∧ k < 4) (q : (0 ≤ sf_sgn 16 k ∧ sf_sgn 16 k ≤ 255) → Q (some (iq_i (sf_sgn 16 k))) g l) : iq_P N xs 71 0 [some (iq_r 1000026), some (iq_i k)] [] g l Q := by
  have c := sf_cR_16 ⟨k.toNat, by omega⟩
  simp only [Int.toNat_of_nonneg hk.1] at c
  have c' : 0 ≤ sf_sgn 16 k ∧ sf_sgn 16 k ≤ 65535 := by omega
  exact B71_1000026 _ _ _ (B67_1000026 _ _ ⟨_, rfl, by omega, fun h => by omega, fun _ => B70_1000076 _ _ _ (B69 _ _ _ _ (B68 _ _ _ _ ⟨by omega, fun h => by omega, fun _ => ⟨by omega, fun _ => ⟨_, rfl, rfl, by omega, c', _, rfl, c', q c⟩, fun h => by omega⟩⟩))⟩)
theorem sp66_16 {N : Nat} {xs : Nat → Int32} {Q : iq_T} {g : iq_I} {l : iq_J} (q : Q (some (iq_i 4)) g l) : iq_P N xs 66 0 [some (iq_r 1000026)] [] g l Q := by
  have e : iq_shr 4 0 = 4 := by decide +kernel
  refine B66_1000026 _ _ (B65_1000026 _ _ ⟨by omega, _, rfl, ?_⟩)
  rw [e]
  exact q
theorem sf_cR_17 : ∀ k : Fin 4, 0 ≤ sf_sgn 17 (k.val : Int) ∧ sf_sgn 17 (k.val : Int) ≤ 255 := by decide +kernel
theorem sp71_17 {N : Nat} {xs : Nat → Int32} {Q : iq_T} {g : iq_I} {l : iq_J} {k : Int} (hk : 0 ≤ k ∧ k < 4) (q : (0 ≤ sf_sgn 17 k ∧ sf_sgn 17 k ≤ 255) → Q (some (iq_i (sf_sgn 17 k))) g l) : iq_P N xs 71 0 [some (iq_r 1000027), some (iq_i k)] [] g l Q := by
  have c := sf_cR_17 ⟨k.toNat, by omega⟩
  simp only [Int.toNat_of_nonneg hk.1] at c
  have c' : 0 ≤ sf_sgn 17 k ∧ sf_sgn 17 k ≤ 65535 := by omega
  exact B71_1000027 _ _ _ (B67_1000027 _ _ ⟨_, rfl, by omega, fun h => by omega, fun _ => B70_1000077 _ _ _ (B69 _ _ _ _ (B68 _ _ _ _ ⟨by omega, fun h => by omega, fun _ => ⟨by omega, fun _ => ⟨_, rfl, rfl, by omega, c', _, rfl, c', q c⟩, fun h => by omega⟩⟩))⟩)
theorem sp66_17 {N : Nat} {xs : Nat → Int32} {Q : iq_T} {g : iq_I} {l : iq_J} (q : Q (some (iq_i 4)) g l) : iq_P N xs 66 0 [some (iq_r 1000027)] [] g l Q := by
  have e : iq_shr 4 0 = 4 := by decide +kernel
  refine B66_1000027 _ _ (B65_1000027 _ _ ⟨by omega, _, rfl, ?_⟩)
  rw [e]
  exact q
theorem sf_cR_18 : ∀ k : Fin 5, 0 ≤ sf_sgn 18 (k.val : Int) ∧ sf_sgn 18 (k.val : Int) ≤ 255 := by decide +kernel
theorem sp71_18 {N : Nat} {xs : Nat → Int32} {Q : iq_T} {g : iq_I} {l : iq_J} {k : Int} (hk : 0 ≤ k ∧ k < 5) (q : (0 ≤ sf_sgn 18 k ∧ sf_sgn 18 k ≤ 255) → Q (some (iq_i (sf_sgn 18 k))) g l) : iq_P N xs 71 0 [some (iq_r 1000028), some (iq_i k)] [] g l Q := by
  have c := sf_cR_18 ⟨k.toNat, by omega⟩
  simp only [Int.toNat_of_nonneg hk.1] at c
  have c' : 0 ≤ sf_sgn 18 k ∧ sf_sgn 18 k ≤ 65535 := by omega
  exact B71_1000028 _ _ _ (B67_1000028 _ _ ⟨_, rfl, by omega, fun h => by omega, fun _ => B70_1000078 _ _ _ (B69 _ _ _ _ (B68 _ _ _ _ ⟨by omega, fun h => by omega, fun _ => ⟨by omega, fun _ => ⟨_, rfl, rfl, by omega, c', _, rfl, c', q c⟩, fun h => by omega⟩⟩))⟩)
theorem sp66_18 {N : Nat} {xs : Nat → Int32} {Q : iq_T} {g : iq_I} {l : iq_J} (q : Q (some (iq_i 5)) g l) : iq_P N xs 66 0 [some (iq_r 1000028)] [] g l Q := by
  have e : iq_shr 5 0 = 5 := by decide +kernel
  refine B66_1000028 _ _ (B65_1000028 _ _ ⟨by omega, _, rfl, ?_⟩)
  rw [e]
  exact q
theorem sf_cR_19 : ∀ k : Fin 4, 0 ≤ sf_sgn 19 (k.val : Int) ∧ sf_sgn 19 (k.val : Int) ≤ 255 := by decide +kernel
theorem sp71_19 {N : Nat} {xs : Nat → Int32} {Q : iq_T} {g : iq_I} {l : iq_J} {k : Int} (hk : 0 ≤ k ∧ k < 4) (q : (0 ≤ sf_sgn 19 k ∧ sf_sgn 19 k ≤ 255) → Q (some (iq_i (sf_sgn 19 k))) g l) : iq_P N xs 71 0 [some (iq_r 1000029), some (iq_i k)] [] g l Q := by
  have c := sf_cR_19 ⟨k.toNat, by omega⟩
  simp only [Int.toNat_of_nonneg hk.1] at c
  have c' : 0 ≤ sf_sgn 19 k ∧ sf_sgn 19 k ≤ 65535 := by omega
  exact B71_1000029 _ _ _ (B67_1000029 _ _ ⟨_, rfl, by omega, fun h => by omega, fun _ => B70_1000079 _ _ _ (B69 _ _ _ _ (B68 _ _ _ _ ⟨by omega, fun h => by omega, fun _ => ⟨by omega, fun _ => ⟨_, rfl, rfl, by omega, c', _, rfl, c', q c⟩, fun h => by omega⟩⟩))⟩)
theorem sp66_19 {N : Nat} {xs : Nat → Int32} {Q : iq_T} {g : iq_I} {l : iq_J} (q : Q (some (iq_i 4)) g l) : iq_P N xs 66 0 [some (iq_r 1000029)] [] g l Q := by
  have e : iq_shr 4 0 = 4 := by decide +kernel
  refine B66_1000029 _ _ (B65_1000029 _ _ ⟨by omega, _, rfl, ?_⟩)
  rw [e]
  exact q
theorem sf_cR_20 : ∀ k : Fin 3, 0 ≤ sf_sgn 20 (k.val : Int) ∧ sf_sgn 20 (k.val : Int) ≤ 255 := by decide +kernel
theorem sp71_20 {N : Nat} {xs : Nat → Int32} {Q : iq_T} {g : iq_I} {l : iq_J} {k : Int} (hk : 0 ≤ k ∧ k < 3) (q : (0 ≤ sf_sgn 20 k ∧ sf_sgn 20 k ≤ 255) → Q (some (iq_i (sf_sgn 20 k))) g l) : iq_P N xs 71 0 [some (iq_r 1000030), some (iq_i k)] [] g l Q := by
  have c := sf_cR_20 ⟨k.toNat, by omega⟩
  simp only [Int.toNat_of_nonneg hk.1] at c
  have c' : 0 ≤ sf_sgn 20 k ∧ sf_sgn 20 k ≤ 65535 := by omega
  exact B71_1000030 _ _ _ (B67_1000030 _ _ ⟨_, rfl, by omega, fun h => by omega, fun _ => B70_1000080 _ _ _ (B69 _ _ _ _ (B68 _ _ _ _ ⟨by omega, fun h => by omega, fun _ => ⟨by omega, fun _ => ⟨_, rfl, rfl, by omega, c', _, rfl, c', q c⟩, fun h => by omega⟩⟩))⟩)
theorem sp66_20 {N : Nat} {xs : Nat → Int32} {Q : iq_T} {g : iq_I} {l : iq_J} (q : Q (some (iq_i 3)) g l) : iq_P N xs 66 0 [some (iq_r 1000030)] [] g l Q := by
  have e : iq_shr 3 0 = 3 := by decide +kernel
  refine B66_1000030 _ _ (B65_1000030 _ _ ⟨by omega, _, rfl, ?_⟩)
  rw [e]
  exact q
theorem sf_cR_21 : ∀ k : Fin 6, 0 ≤ sf_sgn 21 (k.val : Int) ∧ sf_sgn 21 (k.val : Int) ≤ 255 := by decide +kernel
theorem sp71_21 {N : Nat} {xs : Nat → Int32} {Q : iq_T} {g : iq_I} {l : iq_J} {k : Int} (hk : 0 ≤ k ∧ k < 6) (q : (0 ≤ sf_sgn 21 k ∧ sf_sgn 21 k ≤ 255) → Q (some (iq_i (sf_sgn 21 k))) g l) : iq_P N xs 71 0 [some (iq_r 1000031), some (iq_i k)] [] g l Q := by
  have c := sf_cR_21 ⟨k.toNat, by omega⟩
  simp only [Int.toNat_of_nonneg hk.1] at c
  have c' : 0 ≤ sf_sgn 21 k ∧ sf_sgn 21 k ≤ 65535 := by omega
  exact B71_1000031 _ _ _ (B67_1000031 _ _ ⟨_, rfl, by omega, fun h => by omega, fun _ => B70_1000081 _ _ _ (B69 _ _ _ _ (B68 _ _ _ _ ⟨by omega, fun h => by omega, fun _ => ⟨by omega, fun _ => ⟨_, rfl, rfl, by omega, c', _, rfl, c', q c⟩, fun h => by omega⟩⟩))⟩)
theorem sp66_21 {N : Nat} {xs : Nat → Int32} {Q : iq_T} {g : iq_I} {l : iq_J} (q : Q (some (iq_i 6)) g l) : iq_P N xs 66 0 [some (iq_r 1000031)] [] g l Q := by
  have e : iq_shr 6 0 = 6 := by decide +kernel
  refine B66_1000031 _ _ (B65_1000031 _ _ ⟨by omega, _, rfl, ?_⟩)
  rw [e]
  exact q
theorem sf_cR_22 : ∀ k : Fin 6, 0 ≤ sf_sgn 22 (k.val : Int) ∧ sf_sgn 22 (k.val : Int) ≤ 255 := by decide +kernel
theorem sp71_22 {N : Nat} {xs : Nat → Int32} {Q : iq_T} {g : iq_I} {l : iq_J} {k : Int} (hk : 0 ≤ k ∧ k < 6) (q : (0 ≤ sf_sgn 22 k ∧ sf_sgn 22 k ≤ 255) → Q (some (iq_i (sf_sgn 22 k))) g l) : iq_P N xs 71 0 [some (iq_r 1000032), some (iq_i k)] [] g l Q := by
  have c := sf_cR_22 ⟨k.toNat, by omega⟩
  simp only [Int.toNat_of_nonneg hk.1] at c
  have c' : 0 ≤ sf_sgn 22 k ∧ sf_sgn 22 k ≤ 65535 := by omega
  exact B71_1000032 _ _ _ (B67_1000032 _ _ ⟨_, rfl, by omega, fun h => by omega, fun _ => B70_1000082 _ _ _ (B69 _ _ _ _ (B68 _ _ _ _ ⟨by omega, fun h => by omega, fun _ => ⟨by omega, fun _ => ⟨_, rfl, rfl, by omega, c', _, rfl, c', q c⟩, fun h => by omega⟩⟩))⟩)
theorem sp66_22 {N : Nat} {xs : Nat → Int32} {Q : iq_T} {g : iq_I} {l : iq_J} (q : Q (some (iq_i 6)) g l) : iq_P N xs 66 0 [some (iq_r 1000032)] [] g l Q := by
  have e : iq_shr 6 0 = 6 := by decide +kernel
  refine B66_1000032 _ _ (B65_1000032 _ _ ⟨by omega, _, rfl, ?_⟩)
  rw [e]
  exact q
theorem sf_cR_23 : ∀ k : Fin 121, 0 ≤ sf_sgn 23 (k.val : Int) ∧ sf_sgn 23 (k.val : Int) ≤ 255 := by decide +kernel
theorem sp71_23 {N : Nat} {xs : Nat → Int32} {Q : iq_T} {g : iq_I} {l : iq_J} {k : Int} (hk : 0 ≤ k ∧ k < 121) (q : (0 ≤ sf_sgn 23 k ∧ sf_sgn 23 k ≤ 255) → Q (some (iq_i (sf_sgn 23 k))) g l) : iq_P N xs 71 0 [some (iq_r 1000033), some (iq_i k)] [] g l Q := by
  have c := sf_cR_23 ⟨k.toNat, by omega⟩
  simp only [Int.toNat_of_nonneg hk.1] at c
  have c' : 0 ≤ sf_sgn 23 k ∧ sf_sgn 23 k ≤ 65535 := by omega
  exact B71_1000033 _ _ _ (B67_1000033 _ _ ⟨_, rfl, by omega, fun h => by omega, fun _ => B70_1000083 _ _ _ (B69 _ _ _ _ (B68 _ _ _ _ ⟨by omega, fun h => by omega, fun _ => ⟨by omega, fun _ => ⟨_, rfl, rfl, by omega, c', _, rfl, c', q c⟩, fun h => by omega⟩⟩))⟩)
theorem sp66_23 {N : Nat} {xs : Nat → Int32} {Q : iq_T} {g : iq_I} {l : iq_J} (q : Q (some (iq_i 121)) g l) : iq_P N xs 66 0 [some (iq_r 1000033)] [] g l Q := by
  have e : iq_shr 121 0 = 121 := by decide +kernel
  refine B66_1000033 _ _ (B65_1000033 _ _ ⟨by omega, _, rfl, ?_⟩)
  rw [e]
  exact q
def sf_K (n : Nat) : Nat := [1, 6, 13, 23, 30, 35, 40, 49, 55, 58, 65, 71, 76, 81, 87, 91, 96, 101, 105, 110, 117].getD n 121
def sf_Ln (n : Nat) : Nat := [4, 6, 9, 6, 4, 4, 8, 5, 2, 6, 5, 4, 4, 5, 3, 4, 4, 3, 4, 6, 3].getD n 0
/-- the n-th of all words -/
def sf_kw (A : Int → Int) (s e : Int) (n : Nat) : Bool := sf_wd A s e (fun j => sf_sgn 23 (sf_K n + j)) (sf_Ln n)
theorem sf_wd_congr {A : Int → Int} {s e : Int} {c c' : Int → Int} {L : Nat} (h : ∀ j : Nat, j < L → c j = c' j) : sf_wd A s e c L = sf_wd A s e c' L := by
  unfold sf_wd
  congr 1
  refine sf_bx ?_
  rw [sf_eqi, sf_eqi]
  exact ⟨fun z j hj => by rw [z j hj]; exact h j hj, fun z j hj => by rw [z j hj]; exact (h j hj).symm⟩
theorem sf_we_0 : ∀ j : Fin 4, sf_sgn 0 (j.val : Int) = sf_sgn 23 ((sf_K 0 : Int) + (j.val : Int)) := by decide +kernel
theorem sf_wk_0 (A : Int → Int) (s e : Int) : sf_wd A s e (sf_sgn 0) 4 = sf_kw A s e 0 := by
  unfold sf_kw
  exact sf_wd_congr (L := 4) (fun j hj => sf_we_0 ⟨j, hj⟩)
theorem sp72p_0 {N : Nat} {xs : Nat → Int32} {Q : iq_T} {g : iq_I} {l : iq_J} {A : Int → Int} {n s : Int} (h : sf_AB g A n) (e5 : g 10 5 = s) (hs : 0 ≤ s ∧ s + 4 ≤ n) (q1 : sf_eq A s (sf_sgn 0) 4 = true → Q (some (iq_i 1)) g l) (q0 : sf_eq A s (sf_sgn 0) 4 = false → Q (some (iq_i 0)) g l) (f : Nat) : ∀ k : Nat, k + f = 4 → sf_eq A s (sf_sgn 0) k = true → iq_P N xs 72 28 [some (iq_r 10), some (iq_r 1000010), some (iq_i k)] [] g l Q := by
  have hn := h.2.1
  induction f with
  | zero =>
    intro k hk he
    have e : k = 4 := by omega
    subst e
    exact B72_p28_10_1000010 _ _ _ (sp66_0 ⟨_, rfl, by omega, fun _ => q1 he, fun h => by omega⟩)
  | succ f ih =>
    intro k hk he
    refine B72_p28_10_1000010 _ _ _ (sp66_0 ⟨_, rfl, by omega, fun h => by omega, fun _ => ?_⟩)
    rw [e5]
    have cr := h.r (k := s + k) (by omega) (by omega)
    refine sp56 h (by omega) ⟨_, rfl, sp71_0 (by omega) (fun c2 => ⟨_, rfl, by omega, fun d => ?_, fun d => q0 (sf_eqn (k := k) (by omega) d)⟩)⟩
    rw [show ((k : Nat) : Int) + 1 = ((k + 1 : Nat) : Int) by omega]
    exact ih (k + 1) (by omega) (by rw [sf_eq, he, d]; simp)
theorem sp72_0 {N : Nat} {xs : Nat → Int32} {Q : iq_T} {g : iq_I} {l : iq_J} {A : Int → Int} {n s e : Int} (h : sf_AB g A n) (e3 : g 10 3 = e) (e5 : g 10 5 = s) (k4 : 0 ≤ g 10 4 ∧ g 10 4 ≤ 4) (hs : 0 ≤ s ∧ s ≤ e ∧ e ≤ n) (q1 : g 10 4 = 1 → sf_kw A s e 0 = true → Q (some (iq_i 1)) g l) (q0 : ¬ (g 10 4 = 1 ∧ sf_kw A s e 0 = true) → Q (some (iq_i 0)) g l) : iq_P N xs 72 0 [some (iq_r 10), some (iq_r 1000010), none] [] g l Q := by
  have hn := h.2.1
  rw [← sf_wk_0] at q1 q0
  unfold sf_wd at q1 q0
  refine B72_10_1000010 _ _ ⟨by omega, fun c => q0 (fun z => c z.1), fun c => sp66_0 ⟨_, rfl, ?_⟩⟩
  rw [e3, e5]
  refine ⟨by omega, fun d => sp72p_0 h e5 (by omega) (fun t => q1 c ?_) (fun t => q0 (fun z => ?_)) 4 0 (by omega) rfl, fun d => q0 (fun z => ?_)⟩
  · rw [t]; simp; omega
  · have := z.2; rw [t] at this; simp at this
  · have := z.2; simp at this; omega
theorem sf_we_1 : ∀ j : Fin 6, sf_sgn 1 (j.val : Int) = sf_sgn 23 ((sf_K 1 : Int) + (j.val : Int)) := by decide +kernel
theorem sf_wk_1 (A : Int → Int) (s e : Int) : sf_wd A s e (sf_sgn 1) 6 = sf_kw A s e 1 := by
  unfold sf_kw
  exact sf_wd_congr (L := 6) (fun j hj => sf_we_1 ⟨j, hj⟩)
theorem sp72p_1 {N : Nat} {xs : Nat → Int32} {Q : iq_T} {g : iq_I} {l : iq_J} {A : Int → Int} {n s : Int} (h : sf_AB g A n) (e5 : g 10 5 = s) (hs : 0 ≤ s ∧ s + 6 ≤ n) (q1 : sf_eq A s (sf_sgn 1) 6 = true → Q (some (iq_i 1)) g l) (q0 : sf_eq A s (sf_sgn 1) 6 = false → Q (some (iq_i 0)) g l) (f : Nat) : ∀ k : Nat, k + f = 6 → sf_eq A s (sf_sgn 1) k = true → iq_P N xs 72 28 [some (iq_r 10), some (iq_r 1000011), some (iq_i k)] [] g l Q := by
  have hn := h.2.1
  induction f with
  | zero =>
    intro k hk he
    have e : k = 6 := by omega
    subst e
    exact B72_p28_10_1000011 _ _ _ (sp66_1 ⟨_, rfl, by omega, fun _ => q1 he, fun h => by omega⟩)
  | succ f ih =>
    intro k hk he
    refine B72_p28_10_1000011 _ _ _ (sp66_1 ⟨_, rfl, by omega, fun h => by omega, fun _ => ?_⟩)
    rw [e5]
    have cr := h.r (k := s + k) (by omega) (by omega)
    refine sp56 h (by omega) ⟨_, rfl, sp71_1 (by omega) (fun c2 => ⟨_, rfl, by omega, fun d => ?_, fun d => q0 (sf_eqn (k := k) (by omega) d)⟩)⟩
    rw [show ((k : Nat) : Int) + 1 = ((k + 1 : Nat) : Int) by omega]
    exact ih (k + 1) (by omega) (by rw [sf_eq, he, d]; simp)
theorem sp72_1 {N : Nat} {xs : Nat → Int32} {Q : iq_T} {g : iq_I} {l : iq_J} {A : Int → Int} {n s e : Int} (h : sf_AB g A n) (e3 : g 10 3 = e) (e5 : g 10 5 = s) (k4 : 0 ≤ g 10 4 ∧ g 10 4 ≤ 4) (hs : 0 ≤ s ∧ s ≤ e ∧ e ≤ n) (q1 : g 10 4 = 1 → sf_kw A s e 1 = true → Q (some (iq_i 1)) g l) (q0 : ¬ (g 10 4 = 1 ∧ sf_kw A s e 1 = true) → Q (some (iq_i 0)) g l) : iq_P N xs 72 0 [some (iq_r 10), some (iq_r 1000011), none] [] g l Q := by
  have hn := h.2.1
  rw [← sf_wk_1] at q1 q0
  unfold sf_wd at q1 q0
  refine B72_10_1000011 _ _ ⟨by omega, fun c => q0 (fun z => c z.1), fun c => sp66_1 ⟨_, rfl, ?_⟩⟩
  rw [e3, e5]
  refine ⟨by omega, fun d => sp72p_1 h e5 (by omega) (fun t => q1 c ?_) (fun t => q0 (fun z => ?_)) 6 0 (by omega) rfl, fun d => q0 (fun z => ?_)⟩
  · rw [t]; simp; omega
  · have := z.2; rw [t] at this; simp at this
  · have := z.2; simp at this; omega
theorem sf_we_2 : ∀ j : Fin 9, sf_sgn 2 (j.val : Int) = sf_sgn 23 ((sf_K 2 : Int) + (j.val : Int)) := by decide +kernel
theorem sf_wk_2 (A : Int → Int) (s e : Int) : sf_wd A s e (sf_sgn 2) 9 = sf_kw A s e 2 := by
  unfold sf_kw
  exact sf_wd_congr (L := 9) (fun j hj => sf_we_2 ⟨j, hj⟩)
theorem sp72p_2 {N : Nat} {xs : Nat → Int32} {Q : iq_T} {g : iq_I} {l : iq_J} {A : Int → Int} {n s : Int} (h : sf_AB g A n) (e5 : g 10 5 = s) (hs : 0 ≤ s ∧ s + 9 ≤ n) (q1 : sf_eq A s (sf_sgn 2) 9 = true → Q (some (iq_i 1)) g l) (q0 : sf_eq A s (sf_sgn 2) 9 = false → Q (some (iq_i 0)) g l) (f : Nat) : ∀ k : Nat, k + f = 9 → sf_eq A s (sf_sgn 2) k = true → iq_P N xs 72 28 [some (iq_r 10), some (iq_r 1000012), some (iq_i k)] [] g l Q := by
  have hn := h.2.1
  induction f with
  | zero =>
    intro k hk he
    have e : k = 9 := by omega
    subst e
    exact B72_p28_10_1000012 _ _ _ (sp66_2 ⟨_, rfl, by omega, fun _ => q1 he, fun h => by omega⟩)
  | succ f ih =>
    intro k hk he
    refine B72_p28_10_1000012 _ _ _ (sp66_2 ⟨_, rfl, by omega, fun h => by omega, fun _ => ?_⟩)
    rw [e5]
    have cr := h.r (k := s + k) (by omega) (by omega)
    refine sp56 h (by omega) ⟨_, rfl, sp71_2 (by omega) (fun c2 => ⟨_, rfl, by omega, fun d => ?_, fun d => q0 (sf_eqn (k := k) (by omega) d)⟩)⟩
    rw [show ((k : Nat) : Int) + 1 = ((k + 1 : Nat) : Int) by omega]
    exact ih (k + 1) (by omega) (by rw [sf_eq, he, d]; simp)
theorem sp72_2 {N : Nat} {xs : Nat → Int32} {Q : iq_T} {g : iq_I} {l : iq_J} {A : Int → Int} {n s e : Int} (h : sf_AB g A n) (e3 : g 10 3 = e) (e5 : g 10 5 = s) (k4 : 0 ≤ g 10 4 ∧ g 10 4 ≤ 4) (hs : 0 ≤ s ∧ s ≤ e ∧ e ≤ n) (q1 : g 10 4 = 1 → sf_kw A s e 2 = true → Q (some (iq_i 1)) g l) (q0 : ¬ (g 10 4 = 1 ∧ sf_kw A s e 2 = true) → Q (some (iq_i 0)) g l) : iq_P N xs 72 0 [some (iq_r 10), some (iq_r 1000012), none] [] g l Q := by
  have hn := h.2.1
  rw [← sf_wk_2] at q1 q0
  unfold sf_wd at q1 q0
  refine B72_10_1000012 _ _ ⟨by omega, fun c => q0 (fun z => c z.1), fun c => sp66_2 ⟨_, rfl, ?_⟩⟩
  rw [e3, e5]
  refine ⟨by omega, fun d => sp72p_2 h e5 (by omega) (fun t => q1 c ?_) (fun t => q0 (fun z => ?_)) 9 0 (by omega) rfl, fun d => q0 (fun z => ?_)⟩
  · rw [t]; simp; omega
  · have := z.2; rw [t] at this; simp at this
  · have := z.2; simp at this; omega
theorem sf_we_3 : ∀ j : Fin 6, sf_sgn 3 (j.val : Int) = sf_sgn 23 ((sf_K 3 : Int) + (j.val : Int)) := by decide +kernel
theorem sf_wk_3 (A : Int → Int) (s e : Int) : sf_wd A s e (sf_sgn 3) 6 = sf_kw A s e 3 := by
  unfold sf_kw
  exact sf_wd_congr (L := 6) (fun j hj => sf_we_3 ⟨j, hj⟩)
theorem sp72p_3 {N : Nat} {xs : Nat → Int32} {Q : iq_T} {g : iq_I} {l : iq_J} {A : Int → Int} {n s : Int} (h : sf_AB g A n) (e5 : g 10 5 = s) (hs : 0 ≤ s ∧ s + 6 ≤ n) (q1 : sf_eq A s (sf_sgn 3) 6 = true → Q (some (iq_i 1)) g l) (q0 : sf_eq A s (sf_sgn 3) 6 = false → Q (some (iq_i 0)) g l) (f : Nat) : ∀ k : Nat, k + f = 6 → sf_eq A s (sf_sgn 3) k = true → iq_P N xs 72 28 [some (iq_r 10), some (iq_r 1000013), some (iq_i k)] [] g l Q := by
  have hn := h.2.1
  induction f with
  | zero =>
    intro k hk he
    have e : k = 6 := by omega
    subst e
    exact B72_p28_10_1000013 _ _ _ (sp66_3 ⟨_, rfl, by omega, fun _ => q1 he, fun h => by omega⟩)
  | succ f ih =>
    intro k hk he
    refine B72_p28_10_1000013 _ _ _ (sp66_3 ⟨_, rfl, by omega, fun h => by omega, fun _ => ?_⟩)
    rw [e5]
    have cr := h.r (k := s + k) (by omega) (by omega)
    refine sp56 h (by omega) ⟨_, rfl, sp71_3 (by omega) (fun c2 => ⟨_, rfl, by omega, fun d => ?_, fun d => q0 (sf_eqn (k := k) (by omega) d)⟩)⟩
    rw [show ((k : Nat) : Int) + 1 = ((k + 1 : Nat) : Int) by omega]
    exact ih (k + 1) (by omega) (by rw [sf_eq, he, d]; simp)
theorem sp72_3 {N : Nat} {xs : Nat → Int32} {Q : iq_T} {g : iq_I} {l : iq_J} {A : Int → Int} {n s e : Int} (h : sf_AB g A n) (e3 : g 10 3 = e) (e5 : g 10 5 = s) (k4 : 0 ≤ g 10 4 ∧ g 10 4 ≤ 4) (hs : 0 ≤ s ∧ s ≤ e ∧ e ≤ n) (q1 : g 10 4 = 1 → sf_kw A s e 3 = true → Q (some (iq_i 1)) g l) (q0 : ¬ (g 10 4 = 1 ∧ sf_kw A s e 3 = true) → Q (some (iq_i 0)) g l) : iq_P N xs 72 0 [some (iq_r 10), some (iq_r 1000013), none] [] g l Q := by
  have hn := h.2.1
  rw [← sf_wk_3] at q1 q0
  unfold sf_wd at q1 q0
  refine B72_10_1000013 _ _ ⟨by omega, fun c => q0 (fun z => c z.1), fun c => sp66_3 ⟨_, rfl, ?_⟩⟩
  rw [e3, e5]
  refine ⟨by omega, fun d => sp72p_3 h e5 (by omega) (fun t => q1 c ?_) (fun t => q0 (fun z => ?_)) 6 0 (by omega) rfl, fun d => q0 (fun z => ?_)⟩
  · rw [t]; simp; omega
  · have := z.2; rw [t] at this; simp at this
  · have := z.2; simp at this; omega
theorem sf_we_4 : ∀ j : Fin 4, sf_sgn 4 (j.val : Int) = sf_sgn 23 ((sf_K 4 : Int) + (j.val : Int)) := by decide +kernel
theorem sf_wk_4 (A : Int → Int) (s e : Int) : sf_wd A s e (sf_sgn 4) 4 = sf_kw A s e 4 := by
  unfold sf_kw
  exact sf_wd_congr (L := 4) (fun j hj => sf_we_4 ⟨j, hj⟩)
theorem sp72p_4 {N : Nat} {xs : Nat → Int32} {Q : iq_T} {g : iq_I} {l : iq_J} {A : Int → Int} {n s : Int} (h : sf_AB g A n) (e5 : g 10 5 = s) (hs : 0 ≤ s ∧ s + 4 ≤ n) (q1 : sf_eq A s (sf_sgn 4) 4 = true → Q (some (iq_i 1)) g l) (q0 : sf_eq A s (sf_sgn 4) 4 = false → Q (some (iq_i 0)) g l) (f : Nat) : ∀ k : Nat, k + f = 4 → sf_eq A s (sf_sgn 4) k = true → iq_P N xs 72 28 [some (iq_r 10), some (iq_r 1000014), some (iq_i k)] [] g l Q := by
  have hn := h.2.1
  induction f with
  | zero =>
    intro k hk he
    have e : k = 4 := by omega
    subst e
    exact B72_p28_10_1000014 _ _ _ (sp66_4 ⟨_, rfl, by omega, fun _ => q1 he, fun h => by omega⟩)
  | succ f ih =>
    intro k hk he
    refine B72_p28_10_1000014 _ _ _ (sp66_4 ⟨_, rfl, by omega, fun h => by omega, fun _ => ?_⟩)
    rw [e5]
    have cr := h.r (k := s + k) (by omega) (by omega)
    refine sp56 h (by omega) ⟨_, rfl, sp71_4 (by omega) (fun c2 => ⟨_, rfl, by omega, fun d => ?_, fun d => q0 (sf_eqn (k := k) (by omega) d)⟩)⟩
    rw [show ((k : Nat) : Int) + 1 = ((k + 1 : Nat) : Int) by omega]
    exact ih (k + 1) (by omega) (by rw [sf_eq, he, d]; simp)
theorem sp72_4 {N : Nat} {xs : Nat → Int32} {Q : iq_T} {g : iq_I} {l : iq_J} {A : Int → Int} {n s e : Int} (h : sf_AB g A n) (e3 : g 10 3 = e) (e5 : g 10 5 = s) (k4 : 0 ≤ g 10 4 ∧ g 10 4 ≤ 4) (hs : 0 ≤ s ∧ s ≤ e ∧ e ≤ n) (q1 : g 10 4 = 1 → sf_kw A s e 4 = true → Q (some (iq_i 1)) g l) (q0 : ¬ (g 10 4 = 1 ∧ sf_kw A s e 4 = true) → Q (some (iq_i 0)) g l) : iq_P N xs 72 0 [some (iq_r 10), some (iq_r 1000014), none] [] g l Q := by
  have hn := h.2.1
  rw [← sf_wk_4] at q1 q0
  unfold sf_wd at q1 q0
  refine B72_10_1000014 _ _ ⟨by omega, fun c => q0 (fun z => c z.1), fun c => sp66_4 ⟨_, rfl, ?_⟩⟩
  rw [e3, e5]
  refine ⟨by omega, fun d => sp72p_4 h e5 (by omega) (fun t => q1 c ?_) (fun t => q0 (fun z => ?_)) 4 0 (by omega) rfl, fun d => q0 (fun z => ?_)⟩
  · rw [t]; simp; omega
  · have := z.2; rw [t] at this; simp at this
  · have := z.2; simp at this; omega
theorem sf_we_5 : ∀ j : Fin 4, sf_sgn 5 (j.val : Int) = sf_sgn 23 ((sf_K 5 : Int) + (j.val : Int)) := by decide +kernel
theorem sf_wk_5 (A : Int → Int) (s e : Int) : sf_wd A s e (sf_sgn 5) 4 = sf_kw A s e 5 := by
  unfold sf_kw
  exact sf_wd_congr (L := 4) (fun j hj => sf_we_5 ⟨j, hj⟩)
theorem sp72p_5 {N : Nat} {xs : Nat → Int32} {Q : iq_T} {g : iq_I} {l : iq_J} {A : Int → Int} {n s : Int} (h : sf_AB g A n) (e5 : g 10 5 = s) (hs : 0 ≤ s ∧ s + 4 ≤ n) (q1 : sf_eq A s (sf_sgn 5) 4 = true → Q (some (iq_i 1)) g l) (q0 : sf_eq A s (sf_sgn 5) 4 = false → Q (some (iq_i 0)) g l) (f : Nat) : ∀ k : Nat, k + f = 4 → sf_eq A s (sf_sgn 5) k = true → iq_P N xs 72 28 [some (iq_r 10), some (iq_r 1000015), some (iq_i k)] [] g l Q := by
  have hn := h.2.1
  induction f with
  | zero =>
    intro k hk he
    have e : k = 4 := by omega
    subst e
    exact B72_p28_10_1000015 _ _ _ (sp66_5 ⟨_, rfl, by omega, fun _ => q1 he, fun h => by omega⟩)
  | succ f ih =>
    intro k hk he
    refine B72_p28_10_1000015 _ _ _ (sp66_5 ⟨_, rfl, by omega, fun h => by omega, fun _ => ?_⟩)
    rw [e5]
    have cr := h.r (k := s + k) (by omega) (by omega)
    refine sp56 h (by omega) ⟨_, rfl, sp71_5 (by omega) (fun c2 => ⟨_, rfl, by omega, fun d => ?_, fun d => q0 (sf_eqn (k := k) (by omega) d)⟩)⟩
    rw [show ((k : Nat) : Int) + 1 = ((k + 1 : Nat) : Int) by omega]
    exact ih (k + 1) (by omega) (by rw [sf_eq, he, d]; simp)
theorem sp72_5 {N : Nat} {xs : Nat → Int32} {Q : iq_T} {g : iq_I} {l : iq_J} {A : Int → Int} {n s e : Int} (h : sf_AB g A n) (e3 : g 10 3 = e) (e5 : g 10 5 = s) (k4 : 0 ≤ g 10 4 ∧ g 10 4 ≤ 4) (hs : 0 ≤ s ∧ s ≤ e ∧ e ≤ n) (q1 : g 10 4 = 1 → sf_kw A s e 5 = true → Q (some (iq_i 1)) g l) (q0 : ¬ (g 10 4 = 1 ∧ sf_kw A s e 5 = true) → Q (some (iq_i 0)) g l) : iq_P N xs 72 0 [some (iq_r 10), some (iq_r 1000015), none] [] g l Q := by
  have hn := h.2.1
  rw [← sf_wk_5] at q1 q0
  unfold sf_wd at q1 q0
  refine B72_10_1000015 _ _ ⟨by omega, fun c => q0 (fun z => c z.1), fun c => sp66_5 ⟨_, rfl, ?_⟩⟩
  rw [e3, e5]
  refine ⟨by omega, fun d => sp72p_5 h e5 (by omega) (fun t => q1 c ?_) (fun t => q0 (fun z => ?_)) 4 0 (by omega) rfl, fun d => q0 (fun z => ?_)⟩
  · rw [t]; simp; omega
  · have := z.2; rw [t] at this; simp at this
  · have := z.2; simp at this; omega
theorem sf_we_6 : ∀ j : Fin 8, sf_sgn 6 (j.val : Int) = sf_sgn 23 ((sf_K 6 : Int) + (j.val : Int)) := by decide +kernel
theorem sf_wk_6 (A : Int → Int) (s e : Int) : sf_wd A s e (sf_sgn 6) 8 = sf_kw A s e 6 := by
  unfold sf_kw
  exact sf_wd_congr (L := 8) (fun j hj => sf_we_6 ⟨j, hj⟩)
theorem sp72p_6 {N : Nat} {xs : Nat → Int32} {Q : iq_T} {g : iq_I} {l : iq_J} {A : Int → Int} {n s : Int} (h : sf_AB g A n) (e5 : g 10 5 = s) (hs : 0 ≤ s ∧ s + 8 ≤ n) (q1 : sf_eq A s (sf_sgn 6) 8 = true → Q (some (iq_i 1)) g l) (q0 : sf_eq A s (sf_sgn 6) 8 = false → Q (some (iq_i 0)) g l) (f : Nat) : ∀ k : Nat, k + f = 8 → sf_eq A s (sf_sgn 6) k = true → iq_P N xs 72 28 [some (iq_r 10), some (iq_r 1000016), some (iq_i k)] [] g l Q := by
  have hn := h.2.1
  induction f with
  | zero =>
    intro k hk he
    have e : k = 8 := by omega
    subst e
    exact B72_p28_10_1000016 _ _ _ (sp66_6 ⟨_, rfl, by omega, fun _ => q1 he, fun h => by omega⟩)
  | succ f ih =>
    intro k hk he
    refine B72_p28_10_1000016 _ _ _ (sp66_6 ⟨_, rfl, by omega, fun h => by omega, fun _ => ?_⟩)
    rw [e5]
    have cr := h.r (k := s + k) (by omega) (by omega)
    refine sp56 h (by omega) ⟨_, rfl, sp71_6 (by omega) (fun c2 => ⟨_, rfl, by omega, fun d => ?_, fun d => q0 (sf_eqn (k := k) (by omega) d)⟩)⟩
    rw [show ((k : Nat) : Int) + 1 = ((k + 1 : Nat) : Int) by omega]
    exact ih (k + 1) (by omega) (by rw [sf_eq, he, d]; simp)
theorem sp72_6 {N : Nat} {xs : Nat → Int32} {Q : iq_T} {g : iq_I} {l : iq_J} {A : Int → Int} {n s e : Int} (h : sf_AB g A n) (e3 : g 10 3 = e) (e5 : g 10 5 = s) (k4 : 0 ≤ g 10 4 ∧ g 10 4 ≤ 4) (hs : 0 ≤ s ∧ s ≤ e ∧ e ≤ n) (q1 : g 10 4 = 1 → sf_kw A s e 6 = true → Q (some (iq_i 1)) g l) (q0 : ¬ (g 10 4 = 1 ∧ sf_kw A s e 6 = true) → Q (some (iq_i 0)) g l) : iq_P N xs 72 0 [some (iq_r 10), some (iq_r 1000016), none] [] g l Q := by
  have hn := h.2.1
  rw [← sf_wk_6] at q1 q0
  unfold sf_wd at q1 q0
  refine B72_10_1000016 _ _ ⟨by omega, fun c => q0 (fun z => c z.1), fun c => sp66_6 ⟨_, rfl, ?_⟩⟩
  rw [e3, e5]
  refine ⟨by omega, fun d => sp72p_6 h e5 (by omega) (fun t => q1 c ?_) (fun t => q0 (fun z => ?_)) 8 0 (by omega) rfl, fun d => q0 (fun z => ?_)⟩
  · rw [t]; simp; omega
  · have := z.2; rw [t] at this; simp at this
  · have := z.2; simp at this; omega
theorem sf_we_7 : ∀ j : Fin 5, sf_sgn 7 (j.val : Int) = sf_sgn 23 ((sf_K 7 : Int) + (j.val : Int)) := by decide +kernel
theorem sf_wk_7 (A : Int → Int) (s e : Int) : sf_wd A s e (sf_sgn 7) 5 = sf_kw A s e 7 := by
  unfold sf_kw
  exact sf_wd_congr (L := 5) (fun j hj => sf_we_7 ⟨j, hj⟩)
theorem sp72p_7 {N : Nat} {xs : Nat → Int32} {Q : iq_T} {g : iq_I} {l : iq_J} {A : Int → Int} {n s : Int} (h : sf_AB g A n) (e5 : g 10 5 = s) (hs : 0 ≤ s ∧ s + 5 ≤ n) (q1 : sf_eq A s (sf_sgn 7) 5 = true → Q (some (iq_i 1)) g l) (q0 : sf_eq A s (sf_sgn 7) 5 = false → Q (some (iq_i 0)) g l) (f : Nat) : ∀ k : Nat, k + f = 5 → sf_eq A s (sf_sgn 7) k = true → iq_P N xs 72 28 [some (iq_r 10), some (iq_r 1000017), some (iq_i k)] [] g l Q := by
  have hn := h.2.1
  induction f with
  | zero =>
    intro k hk he
    have e : k = 5 := by omega
    subst e
    exact B72_p28_10_1000017 _ _ _ (sp66_7 ⟨_, rfl, by omega, fun _ => q1 he, fun h => by omega⟩)
  | succ f ih =>
    intro k hk he
    refine B72_p28_10_1000017 _ _ _ (sp66_7 ⟨_, rfl, by omega, fun h => by omega, fun _ => ?_⟩)
    rw [e5]
    have cr := h.r (k := s + k) (by omega) (by omega)
    refine sp56 h (by omega) ⟨_, rfl, sp71_7 (by omega) (fun c2 => ⟨_, rfl, by omega, fun d => ?_, fun d => q0 (sf_eqn (k := k) (by omega) d)⟩)⟩
    rw [show ((k : Nat) : Int) + 1 = ((k + 1 : Nat) : Int) by omega]
    exact ih (k + 1) (by omega) (by rw [sf_eq, he, d]; simp)
theorem sp72_7 {N : Nat} {xs : Nat → Int32} {Q : iq_T} {g : iq_I} {l : iq_J} {A : Int → Int} {n s e : Int} (h : sf_AB g A n) (e3 : g 10 3 = e) (e5 : g 10 5 = s) (k4 : 0 ≤ g 10 4 ∧ g 10 4 ≤ 4) (hs : 0 ≤ s ∧ s ≤ e ∧ e ≤ n) (q1 : g 10 4 = 1 → sf_kw A s e 7 = true → Q (some (iq_i 1)) g l) (q0 : ¬ (g 10 4 = 1 ∧ sf_kw A s e 7 = true) → Q (some (iq_i 0)) g l) : iq_P N xs 72 0 [some (iq_r 10), some (iq_r 1000017), none] [] g l Q := by
  have hn := h.2.1
  rw [← sf_wk_7] at q1 q0
  unfold sf_wd at q1 q0
  refine B72_10_1000017 _ _ ⟨by omega, fun c => q0 (fun z => c z.1), fun c => sp66_7 ⟨_, rfl, ?_⟩⟩
  rw [e3, e5]
  refine ⟨by omega, fun d => sp72p_7 h e5 (by omega) (fun t => q1 c ?_) (fun t => q0 (fun z => ?_)) 5 0 (by omega) rfl, fun d => q0 (fun z => ?_)⟩
  · rw [t]; simp; omega
  · have := z.2; rw [t] at this; simp at this
  · have := z.2; simp at this; omega
theorem sf_we_8 : ∀ j : Fin 2, sf_sgn 8 (j.val : Int) = sf_sgn 23 ((sf_K 8 : Int) + (j.val : Int)) := by decide +kernel
theorem sf_wk_8 (A : Int → Int) (s e : Int) : sf_wd A s e (sf_sgn 8) 2 = sf_kw A s e 8 := by
  unfold sf_kw
  exact sf_wd_congr (L := 2) (fun j hj => sf_we_8 ⟨j, hj⟩)
theorem sp72p_8 {N : Nat} {xs : Nat → Int32} {Q : iq_T} {g : iq_I} {l : iq_J} {A : Int → Int} {n s : Int} (h : sf_AB g A n) (e5 : g 10 5 = s) (hs : 0 ≤ s ∧ s + 2 ≤ n) (q1 : sf_eq A s (sf_sgn 8) 2 = true → Q (some (iq_i 1)) g l) (q0 : sf_eq A s (sf_sgn 8) 2 = false → Q (some (iq_i 0)) g l) (f : Nat) : ∀ k : Nat, k + f = 2 → sf_eq A s (sf_sgn 8) k = true → iq_P N xs 72 28 [some (iq_r 10), some (iq_r 1000018), some (iq_i k)] [] g l Q := by
  have hn := h.2.1
  induction f with
  | zero =>
    intro k hk he
    have e : k = 2 := by omega
    subst e
    exact B72_p28_10_1000018 _ _ _ (sp66_8 ⟨_, rfl, by omega, fun _ => q1 he, fun h => by omega⟩)
  | succ f ih =>
    intro k hk he
    refine B72_p28_10_1000018 _ _ _ (sp66_8 ⟨_, rfl, by omega, fun h => by omega, fun _ => ?_⟩)
    rw [e5]
    have cr := h.r (k := s + k) (by omega) (by omega)
    refine sp56 h (by omega) ⟨_, rfl, sp71_8 (by omega) (fun c2 => ⟨_, rfl, by omega, fun d => ?_, fun d => q0 (sf_eqn (k := k) (by omega) d)⟩)⟩
    rw [show ((k : Nat) : Int) + 1 = ((k + 1 : Nat) : Int) by omega]
    exact ih (k + 1) (by omega) (by rw [sf_eq, he, d]; simp)
theorem sp72_8 {N : Nat} {xs : Nat → Int32} {Q : iq_T} {g : iq_I} {l : iq_J} {A : Int → Int} {n s e : Int} (h : sf_AB g A n) (e3 : g 10 3 = e) (e5 : g 10 5 = s) (k4 : 0 ≤ g 10 4 ∧ g 10 4 ≤ 4) (hs : 0 ≤ s ∧ s ≤ e ∧ e ≤ n) (q1 : g 10 4 = 1 → sf_kw A s e 8 = true → Q (some (iq_i 1)) g l) (q0 : ¬ (g 10 4 = 1 ∧ sf_kw A s e 8 = true) → Q (some (iq_i 0)) g l) : iq_P N xs 72 0 [some (iq_r 10), some (iq_r 1000018), none] [] g l Q := by
  have hn := h.2.1
  rw [← sf_wk_8] at q1 q0
  unfold sf_wd at q1 q0
  refine B72_10_1000018 _ _ ⟨by omega, fun c => q0 (fun z => c z.1), fun c => sp66_8 ⟨_, rfl, ?_⟩⟩
  rw [e3, e5]
  refine ⟨by omega, fun d => sp72p_8 h e5 (by omega) (fun t => q1 c ?_) (fun t => q0 (fun z => ?_)) 2 0 (by omega) rfl, fun d => q0 (fun z => ?_)⟩
  · rw [t]; simp; omega
  · have := z.2; rw [t] at this; simp at this
  · have := z.2; simp at this; omega
theorem sf_we_9 : ∀ j : Fin 6, sf_sgn 9 (j.val : Int) = sf_sgn 23 ((sf_K 9 : Int) + (j.val : Int)) := by decide +kernel
theorem sf_wk_9 (A : Int → Int) (s e : Int) : sf_wd A s e (sf_sgn 9) 6 = sf_kw A s e 9 := by
  unfold sf_kw
  exact sf_wd_congr (L := 6) (fun j hj => sf_we_9 ⟨j, hj⟩)
theorem sp72p_9 {N : Nat} {xs : Nat → Int32} {Q : iq_T} {g : iq_I} {l : iq_J} {A : Int → Int} {n s : Int} (h : sf_AB g A n) (e5 : g 10 5 = s) (hs : 0 ≤ s ∧ s + 6 ≤ n) (q1 : sf_eq A s (sf_sgn 9) 6 = true → Q (some (iq_i 1)) g l) (q0 : sf_eq A s (sf_sgn 9) 6 = false → Q (some (iq_i 0)) g l) (f : Nat) : ∀ k : Nat, k + f = 6 → sf_eq A s (sf_sgn 9) k = true → iq_P N xs 72 28 [some (iq_r 10), some (iq_r 1000019), some (iq_i k)] [] g l Q := by
  have hn := h.2.1
  induction f with
  | zero =>
    intro k hk he
    have e : k = 6 := by omega
    subst e
    exact B72_p28_10_1000019 _ _ _ (sp66_9 ⟨_, rfl, by omega, fun _ => q1 he, fun h => by omega⟩)
  | succ f ih =>
    intro k hk he
    refine B72_p28_10_1000019 _ _ _ (sp66_9 ⟨_, rfl, by omega, fun h => by omega, fun _ => ?_⟩)
    rw [e5]
    have cr := h.r (k := s + k) (by omega) (by omega)
    refine sp56 h (by omega) ⟨_, rfl, sp71_9 (by omega) (fun c2 => ⟨_, rfl, by omega, fun d => ?_, fun d => q0 (sf_eqn (k := k) (by omega) d)⟩)⟩
    rw [show ((k : Nat) : Int) + 1 = ((k + 1 : Nat) : Int) by omega]
    exact ih (k + 1) (by omega) (by rw [sf_eq, he, d]; simp)
theorem sp72_9 {N : Nat} {xs : Nat → Int32} {Q : iq_T} {g : iq_I} {l : iq_J} {A : Int → Int} {n s e : Int} (h : sf_AB g A n) (e3 : g 10 3 = e) (e5 : g 10 5 = s) (k4 : 0 ≤ g 10 4 ∧ g 10 4 ≤ 4) (hs : 0 ≤ s ∧ s ≤ e ∧ e ≤ n) (q1 : g 10 4 = 1 → sf_kw A s e 9 = true → Q (some (iq_i 1)) g l) (q0 : ¬ (g 10 4 = 1 ∧ sf_kw A s e 9 = true) → Q (some (iq_i 0)) g l) : iq_P N xs 72 0 [some (iq_r 10), some (iq_r 1000019), none] [] g l Q := by
  have hn := h.2.1
  rw [← sf_wk_9] at q1 q0
  unfold sf_wd at q1 q0
  refine B72_10_1000019 _ _ ⟨by omega, fun c => q0 (fun z => c z.1), fun c => sp66_9 ⟨_, rfl, ?_⟩⟩
  rw [e3, e5]
  refine ⟨by omega, fun d => sp72p_9 h e5 (by omega) (fun t => q1 c ?_) (fun t => q0 (fun z => ?_)) 6 0 (by omega) rfl, fun d => q0 (fun z => ?_)⟩
  · rw [t]; simp; omega
  · have := z.2; rw [t] at this; simp at this
  · have := z.2; simp at this; omega
theorem sf_we_10 : ∀ j : Fin 3, sf_sgn 10 (j.val : Int) = sf_sgn 23 ((sf_K 17 : Int) + (j.val : Int)) := by decide +kernel
theorem sf_wk_10 (A : Int → Int) (s e : Int) : sf_wd A s e (sf_sgn 10) 3 = sf_kw A s e 17 := by
  unfold sf_kw
  exact sf_wd_congr (L := 3) (fun j hj => sf_we_10 ⟨j, hj⟩)
theorem sp72p_10 {N : Nat} {xs : Nat → Int32} {Q : iq_T} {g : iq_I} {l : iq_J} {A : Int → Int} {n s : Int} (h : sf_AB g A n) (e5 : g 10 5 = s) (hs : 0 ≤ s ∧ s + 3 ≤ n) (q1 : sf_eq A s (sf_sgn 10) 3 = true → Q (some (iq_i 1)) g l) (q0 : sf_eq A s (sf_sgn 10) 3 = false → Q (some (iq_i 0)) g l) (f : Nat) : ∀ k : Nat, k + f = 3 → sf_eq A s (sf_sgn 10) k = true → iq_P N xs 72 28 [some (iq_r 10), some (iq_r 1000020), some (iq_i k)] [] g l Q := by
  have hn := h.2.1
  induction f with
  | zero =>
    intro k hk he
    have e : k = 3 := by omega
    subst e
    exact B72_p28_10_1000020 _ _ _ (sp66_10 ⟨_, rfl, by omega, fun _ => q1 he, fun h => by omega⟩)
  | succ f ih =>
    intro k hk he
    refine B72_p28_10_1000020 _ _ _ (sp66_10 ⟨_, rfl, by omega, fun h => by omega, fun _ => ?_⟩)
    rw [e5]
    have cr := h.r (k := s + k) (by omega) (by omega)
    refine sp56 h (by omega) ⟨_, rfl, sp71_10 (by omega) (fun c2 => ⟨_, rfl, by omega, fun d => ?_, fun d => q0 (sf_eqn (k := k) (by omega) d)⟩)⟩
    rw [show ((k : Nat) : Int) + 1 = ((k + 1 : Nat) : Int) by omega]
    exact ih (k + 1) (by omega) (by rw [sf_eq, he, d]; simp)
theorem sp72_10 {N : Nat} {xs : Nat → Int32} {Q : iq_T} {g : iq_I} {l : iq_J} {A : Int → Int} {n s e : Int} (h : sf_AB g A n) (e3 : g 10 3 = e) (e5 : g 10 5 = s) (k4 : 0 ≤ g 10 4 ∧ g 10 4 ≤ 4) (hs : 0 ≤ s ∧ s ≤ e ∧ e ≤ n) (q1 : g 10 4 = 1 → sf_kw A s e 17 = true → Q (some (iq_i 1)) g l) (q0 : ¬ (g 10 4 = 1 ∧ sf_kw A s e 17 = true) → Q (some (iq_i 0)) g l) : iq_P N xs 72 0 [some (iq_r 10), some (iq_r 1000020), none] [] g l Q := by
  have hn := h.2.1
  rw [← sf_wk_10] at q1 q0
  unfold sf_wd at q1 q0
  refine B72_10_1000020 _ _ ⟨by omega, fun c => q0 (fun z => c z.1), fun c => sp66_10 ⟨_, rfl, ?_⟩⟩
  rw [e3, e5]
  refine ⟨by omega, fun d => sp72p_10 h e5 (by omega) (fun t => q1 c ?_) (fun t => q0 (fun z => ?_)) 3 0 (by omega) rfl, fun d => q0 (fun z => ?_)⟩
  · rw [t]; simp; omega
  · have := z.2; rw [t] at this; simp at this
  · have := z.2; simp at this; omega
theorem sf_we_11 : ∀ j : Fin 5, sf_sgn 11 (j.val : Int) = sf_sgn 23 ((sf_K 10 : Int) + (j.val : Int)) := by decide +kernel
theorem sf_wk_11 (A : Int → Int) (s e : Int) : sf_wd A s e (sf_sgn 11) 5 = sf_kw A s e 10 := by
  unfold sf_kw
  exact sf_wd_congr (L := 5) (fun j hj => sf_we_11 ⟨j, hj⟩)
theorem sp72p_11 {N : Nat} {xs : Nat → Int32} {Q : iq_T} {g : iq_I} {l : iq_J} {A : Int → Int} {n s : Int} (h : sf_AB g A n) (e5 : g 10 5 = s) (hs : 0 ≤ s ∧ s + 5 ≤ n) (q1 : sf_eq A s (sf_sgn 11) 5 = true → Q (some (iq_i 1)) g l) (q0 : sf_eq A s (sf_sgn 11) 5 = false → Q (some (iq_i 0)) g l) (f : Nat) : ∀ k : Nat, k + f = 5 → sf_eq A s (sf_sgn 11) k = true → iq_P N xs 72 28 [some (iq_r 10), some (iq_r 1000021), some (iq_i k)] [] g l Q := by
  have hn := h.2.1
  induction f with
  | zero =>
    intro k hk he
    have e : k = 5 := by omega
    subst e
    exact B72_p28_10_1000021 _ _ _ (sp66_11 ⟨_, rfl, by omega, fun _ => q1 he, fun h => by omega⟩)
  | succ f ih =>
    intro k hk he
    refine B72_p28_10_1000021 _ _ _ (sp66_11 ⟨_, rfl, by omega, fun h => by omega, fun _ => ?_⟩)
    rw [e5]
    have cr := h.r (k := s + k) (by omega) (by omega)
    refine sp56 h (by omega) ⟨_, rfl, sp71_11 (by omega) (fun c2 => ⟨_, rfl, by omega, fun d => ?_, fun d => q0 (sf_eqn (k := k) (by omega) d)⟩)⟩
    rw [show ((k : Nat) : Int) + 1 = ((k + 1 : Nat) : Int) by omega]
    exact ih (k + 1) (by omega) (by rw [sf_eq, he, d]; simp)
theorem sp72_11 {N : Nat} {xs : Nat → Int32} {Q : iq_T} {g : iq_I} {l : iq_J} {A : Int → Int} {n s e : Int} (h : sf_AB g A n) (e3 : g 10 3 = e) (e5 : g 10 5 = s) (k4 : 0 ≤ g 10 4 ∧ g 10 4 ≤ 4) (hs : 0 ≤ s ∧ s ≤ e ∧ e ≤ n) (q1 : g 10 4 = 1 → sf_kw A s e 10 = true → Q (some (iq_i 1)) g l) (q0 : ¬ (g 10 4 = 1 ∧ sf_kw A s e 10 = true) → Q (some (iq_i 0)) g l) : iq_P N xs 72 0 [some (iq_r 10), some (iq_r 1000021), none] [] g l Q := by
  have hn := h.2.1
  rw [← sf_wk_11] at q1 q0
  unfold sf_wd at q1 q0
  refine B72_10_1000021 _ _ ⟨by omega, fun c => q0 (fun z => c z.1), fun c => sp66_11 ⟨_, rfl, ?_⟩⟩
  rw [e3, e5]
  refine ⟨by omega, fun d => sp72p_11 h e5 (by omega) (fun t => q1 c ?_) (fun t => q0 (fun z => ?_)) 5 0 (by omega) rfl, fun d => q0 (fun z => ?_)⟩
  · rw [t]; simp; omega
  · have := z.2; rw [t] at this; simp at this
  · have := z.2; simp at this; omega
theorem sf_we_12 : ∀ j : Fin 4, sf_sgn 12 (j.val : Int) = sf_sgn 23 ((sf_K 11 : Int) + (j.val : Int)) := by decide +kernel
theorem sf_wk_12 (A : Int → Int) (s e : Int) : sf_wd A s e (sf_sgn 12) 4 = sf_kw A s e 11 := by
  unfold sf_kw
  exact sf_wd_congr (L := 4) (fun j hj => sf_we_12 ⟨j, hj⟩)
theorem sp72p_12 {N : Nat} {xs : Nat → Int32} {Q : iq_T} {g : iq_I} {l : iq_J} {A : Int → Int} {n s : Int} (h : sf_AB g A n) (e5 : g 10 5 = s) (hs : 0 ≤ s ∧ s + 4 ≤ n) (q1 : sf_eq A s (sf_sgn 12) 4 = true → Q (some (iq_i 1)) g l) (q0 : sf_eq A s (sf_sgn 12) 4 = false → Q (some (iq_i 0)) g l) (f : Nat) : ∀ k : Nat, k + f = 4 → sf_eq A s (sf_sgn 12) k = true → iq_P N xs 72 28 [some (iq_r 10), some (iq_r 1000022), some (iq_i k)] [] g l Q := by
  have hn := h.2.1
  induction f with
  | zero =>
    intro k hk he
    have e : k = 4 := by omega
    subst e
    exact B72_p28_10_1000022 _ _ _ (sp66_12 ⟨_, rfl, by omega, fun _ => q1 he, fun h => by omega⟩)
  | succ f ih =>
    intro k hk he
    refine B72_p28_10_1000022 _ _ _ (sp66_12 ⟨_, rfl, by omega, fun h => by omega, fun _ => ?_⟩)
    rw [e5]
    have cr := h.r (k := s + k) (by omega) (by omega)
    refine sp56 h (by omega) ⟨_, rfl, sp71_12 (by omega) (fun c2 => ⟨_, rfl, by omega, fun d => ?_, fun d => q0 (sf_eqn (k := k) (by omega) d)⟩)⟩
    rw [show ((k : Nat) : Int) + 1 = ((k + 1 : Nat) : Int) by omega]
    exact ih (k + 1) (by omega) (by rw [sf_eq, he, d]; simp)
theorem sp72_12 {N : Nat} {xs : Nat → Int32} {Q : iq_T} {g : iq_I} {l : iq_J} {A : Int → Int} {n s e : Int} (h : sf_AB g A n) (e3 : g 10 3 = e) (e5 : g 10 5 = s) (k4 : 0 ≤ g 10 4 ∧ g 10 4 ≤ 4) (hs : 0 ≤ s ∧ s ≤ e ∧ e ≤ n) (q1 : g 10 4 = 1 → sf_kw A s e 11 = true → Q (some (iq_i 1)) g l) (q0 : ¬ (g 10 4 = 1 ∧ sf_kw A s e 11 = true) → Q (some (iq_i 0)) g l) : iq_P N xs 72 0 [some (iq_r 10), some (iq_r 1000022), none] [] g l Q := by
  have hn := h.2.1
  rw [← sf_wk_12] at q1 q0
  unfold sf_wd at q1 q0
  refine B72_10_1000022 _ _ ⟨by omega, fun c => q0 (fun z => c z.1), fun c => sp66_12 ⟨_, rfl, ?_⟩⟩
  rw [e3, e5]
  refine ⟨by omega, fun d => sp72p_12 h e5 (by omega) (fun t => q1 c ?_) (fun t => q0 (fun z => ?_)) 4 0 (by omega) rfl, fun d => q0 (fun z => ?_)⟩
  · rw [t]; simp; omega
  · have := z.2; rw [t] at this; simp at this
  · have := z.2; simp at this; omega
theorem sf_we_13 : ∀ j : Fin 4, sf_sgn 13 (j.val : Int) = sf_sgn 23 ((sf_K 5 : Int) + (j.val : Int)) := by decide +kernel
theorem sf_wk_13 (A : Int → Int) (s e : Int) : sf_wd A s e (sf_sgn 13) 4 = sf_kw A s e 5 := by
  unfold sf_kw
  exact sf_wd_congr (L := 4) (fun j hj => sf_we_13 ⟨j, hj⟩)
theorem sp72p_13 {N : Nat} {xs : Nat → Int32} {Q : iq_T} {g : iq_I} {l : iq_J} {A : Int → Int} {n s : Int} (h : sf_AB g A n) (e5 : g 10 5 = s) (hs : 0 ≤ s ∧ s + 4 ≤ n) (q1 : sf_eq A s (sf_sgn 13) 4 = true → Q (some (iq_i 1)) g l) (q0 : sf_eq A s (sf_sgn 13) 4 = false → Q (some (iq_i 0)) g l) (f : Nat) : ∀ k : Nat, k + f = 4 → sf_eq A s (sf_sgn 13) k = true → iq_P N xs 72 28 [some (iq_r 10), some (iq_r 1000023), some (iq_i k)] [] g l Q := by
  have hn := h.2.1
  induction f with
  | zero =>
    intro k hk he
    have e : k = 4 := by omega
    subst e
    exact B72_p28_10_1000023 _ _ _ (sp66_13 ⟨_, rfl, by omega, fun _ => q1 he, fun h => by omega⟩)
  | succ f ih =>
    intro k hk he
    refine B72_p28_10_1000023 _ _ _ (sp66_13 ⟨_, rfl, by omega, fun h => by omega, fun _ => ?_⟩)
    rw [e5]
    have cr := h.r (k := s + k) (by omega) (by omega)
    refine sp56 h (by omega) ⟨_, rfl, sp71_13 (by omega) (fun c2 => ⟨_, rfl, by omega, fun d => ?_, fun d => q0 (sf_eqn (k := k) (by omega) d)⟩)⟩
    rw [show ((k : Nat) : Int) + 1 = ((k + 1 : Nat) : Int) by omega]
    exact ih (k + 1) (by omega) (by rw [sf_eq, he, d]; simp)
theorem sp72_13 {N : Nat} {xs : Nat → Int32} {Q : iq_T} {g : iq_I} {l : iq_J} {A : Int → Int} {n s e : Int} (h : sf_AB g A n) (e3 : g 10 3 = e) (e5 : g 10 5 = s) (k4 : 0 ≤ g 10 4 ∧ g 10 4 ≤ 4) (hs : 0 ≤ s ∧ s ≤ e ∧ e ≤ n) (q1 : g 10 4 = 1 → sf_kw A s e 5 = true → Q (some (iq_i 1)) g l) (q0 : ¬ (g 10 4 = 1 ∧ sf_kw A s e 5 = true) → Q (some (iq_i 0)) g l) : iq_P N xs 72 0 [some (iq_r 10), some (iq_r 1000023), none] [] g l Q := by
  have hn := h.2.1
  rw [← sf_wk_13] at q1 q0
  unfold sf_wd at q1 q0
  refine B72_10_1000023 _ _ ⟨by omega, fun c => q0 (fun z => c z.1), fun c => sp66_13 ⟨_, rfl, ?_⟩⟩
  rw [e3, e5]
  refine ⟨by omega, fun d => sp72p_13 h e5 (by omega) (fun t => q1 c ?_) (fun t => q0 (fun z => ?_)) 4 0 (by omega) rfl, fun d => q0 (fun z => ?_)⟩
  · rw [t]; simp; omega
  · have := z.2; rw [t] at this; simp at this
  · have := z.2; simp at this; omega
theorem sf_we_14 : ∀ j : Fin 3, sf_sgn 14 (j.val : Int) = sf_sgn 23 ((sf_K 14 : Int) + (j.val : Int)) := by decide +kernel
theorem sf_wk_14 (A : Int → Int) (s e : Int) : sf_wd A s e (sf_sgn 14) 3 = sf_kw A s e 14 := by
  unfold sf_kw
  exact sf_wd_congr (L := 3) (fun j hj => sf_we_14 ⟨j, hj⟩)
theorem sp72p_14 {N : Nat} {xs : Nat → Int32} {Q : iq_T} {g : iq_I} {l : iq_J} {A : Int → Int} {n s : Int} (h : sf_AB g A n) (e5 : g 10 5 = s) (hs : 0 ≤ s ∧ s + 3 ≤ n) (q1 : sf_eq A s (sf_sgn 14) 3 = true → Q (some (iq_i 1)) g l) (q0 : sf_eq A s (sf_sgn 14) 3 = false → Q (some (iq_i 0)) g l) (f : Nat) : ∀ k : Nat, k + f = 3 → sf_eq A s (sf_sgn 14) k = true → iq_P N xs 72 28 [some (iq_r 10), some (iq_r 1000024), some (iq_i k)] [] g l Q := by
  have hn := h.2.1
  induction f with
  | zero =>
    intro k hk he
    have e : k = 3 := by omega
    subst e
    exact B72_p28_10_1000024 _ _ _ (sp66_14 ⟨_, rfl, by omega, fun _ => q1 he, fun h => by omega⟩)
  | succ f ih =>
    intro k hk he
    refine B72_p28_10_1000024 _ _ _ (sp66_14 ⟨_, rfl, by omega, fun h => by omega, fun _ => ?_⟩)
    rw [e5]
    have cr := h.r (k := s + k) (by omega) (by omega)
    refine sp56 h (by omega) ⟨_, rfl, sp71_14 (by omega) (fun c2 => ⟨_, rfl, by omega, fun d => ?_, fun d => q0 (sf_eqn (k := k) (by omega) d)⟩)⟩
    rw [show ((k : Nat) : Int) + 1 = ((k + 1 : Nat) : Int) by omega]
    exact ih (k + 1) (by omega) (by rw [sf_eq, he, d]; simp)
theorem sp72_14 {N : Nat} {xs : Nat → Int32} {Q : iq_T} {g : iq_I} {l : iq_J} {A : Int → Int} {n s e : Int} (h : sf_AB g A n) (e3 : g 10 3 = e) (e5 : g 10 5 = s) (k4 : 0 ≤ g 10 4 ∧ g 10 4 ≤ 4) (hs : 0 ≤ s ∧ s ≤ e ∧ e ≤ n) (q1 : g 10 4 = 1 → sf_kw A s e 14 = true → Q (some (iq_i 1)) g l) (q0 : ¬ (g 10 4 = 1 ∧ sf_kw A s e 14 = true) → Q (some (iq_i 0)) g l) : iq_P N xs 72 0 [some (iq_r 10), some (iq_r 1000024), none] [] g l Q := by
  have hn := h.2.1
  rw [← sf_wk_14] at q1 q0
  unfold sf_wd at q1 q0
  refine B72_10_1000024 _ _ ⟨by omega, fun c => q0 (fun z => c z.1), fun c => sp66_14 ⟨_, rfl, ?_⟩⟩
  rw [e3, e5]
  refine ⟨by omega, fun d => sp72p_14 h e5 (by omega) (fun t => q1 c ?_) (fun t => q0 (fun z => ?_)) 3 0 (by omega) rfl, fun d => q0 (fun z => ?_)⟩
  · rw [t]; simp; omega
  · have := z.2; rw [t] at this; simp at this
  · have := z.2; simp at this; omega
theorem sf_we_15 : ∀ j : Fin 4, sf_sgn 15 (j.val : Int) = sf_sgn 23 ((sf_K 12 : Int) + (j.val : Int)) := by decide +kernel
theorem sf_wk_15 (A : Int → Int) (s e : Int) : sf_wd A s e (sf_sgn 15) 4 = sf_kw A s e 12 := by
  unfold sf_kw
  exact sf_wd_congr (L := 4) (fun j hj => sf_we_15 ⟨j, hj⟩)
theorem sp72p_15 {N : Nat} {xs : Nat → Int32} {Q : iq_T} {g : iq_I} {l : iq_J} {A : Int → Int} {n s : Int} (h : sf_AB g A n) (e5 : g 10 5 = s) (hs : 0 ≤ s ∧ s + 4 ≤ n) (q1 : sf_eq A s (sf_sgn 15) 4 = true → Q (some (iq_i 1)) g l) (q0 : sf_eq A s (sf_sgn 15) 4 = false → Q (some (iq_i 0)) g l) (f : Nat) : ∀ k : Nat, k + f = 4 → sf_eq A s (sf_sgn 15) k = true → iq_P N xs 72 28 [some (iq_r 10), some (iq_r 1000025), some (iq_i k)] [] g l Q := by
  have hn := h.2.1
  induction f with
  | zero =>
    intro k hk he
    have e : k = 4 := by omega
    subst e
    exact B72_p28_10_1000025 _ _ _ (sp66_15 ⟨_, rfl, by omega, fun _ => q1 he, fun h => by omega⟩)
  | succ f ih =>
    intro k hk he
    refine B72_p28_10_1000025 _ _ _ (sp66_15 ⟨_, rfl, by omega, fun h => by omega, fun _ => ?_⟩)
    rw [e5]
    have cr := h.r (k := s + k) (by omega) (by omega)
    refine sp56 h (by omega) ⟨_, rfl, sp71_15 (by omega) (fun c2 => ⟨_, rfl, by omega, fun d => ?_, fun d => q0 (sf_eqn (k := k) (by omega) d)⟩)⟩
    rw [show ((k : Nat) : Int) + 1 = ((k + 1 : Nat) : Int) by omega]
    exact ih (k + 1) (by omega) (by rw [sf_eq, he, d]; simp)
theorem sp72_15 {N : Nat} {xs : Nat → Int32} {Q : iq_T} {g : iq_I} {l : iq_J} {A : Int → Int} {n s e : Int} (h : sf_AB g A n) (e3 : g 10 3 = e) (e5 : g 10 5 = s) (k4 : 0 ≤ g 10 4 ∧ g 10 4 ≤ 4) (hs : 0 ≤ s ∧ s ≤ e ∧ e ≤ n) (q1 : g 10 4 = 1 → sf_kw A s e 12 = true → Q (some (iq_i 1)) g l) (q0 : ¬ (g 10 4 = 1 ∧ sf_kw A s e 12 = true) → Q (some (iq_i 0)) g l) : iq_P N xs 72 0 [some (iq_r 10), some (iq_r 1000025), none] [] g l Q := by
  have hn := h.2.1
  rw [← sf_wk_15] at q1 q0
  unfold sf_wd at q1 q0
  refine B72_10_1000025 _ _ ⟨by omega, fun c => q0 (fun z => c z.1), fun c => sp66_15 ⟨_, rfl, ?_⟩⟩
  rw [e3, e5]
  refine ⟨by omega, fun d => sp72p_15 h e5 (by omega) (fun t => q1 c ?_) (fun t => q0 (fun z => ?_)) 4 0 (by omega) rfl, fun d => q0 (fun z => ?_)⟩
  · rw [t]; simp; omega
  · have := z.2; rw [t] at this; simp at this
  · have := z.2; simp at this; omega
theorem sf_we_16 : ∀ j : Fin 4, sf_sgn 16 (j.val : Int) = sf_sgn 23 ((sf_K 15 : Int) + (j.val : Int)) := by decide +kernel
theorem sf_wk_16 (A : Int → Int) (s e : Int) : sf_wd A s e (sf_sgn 16) 4 = sf_kw A s e 15 := by
  unfold sf_kw
  exact sf_wd_congr (L := 4) (fun j hj => sf_we_16 ⟨j, hj⟩)
theorem sp72p_16 {N : Nat} {xs : Nat → Int32} {Q : iq_T} {g : iq_I} {l : iq_J} {A : Int → Int} {n s : Int} (h : sf_AB g A n) (e5 : g 10 5 = s) (hs : 0 ≤ s ∧ s + 4 ≤ n) (q1 : sf_eq A s (sf_sgn 16) 4 = true → Q (some (iq_i 1)) g l) (q0 : sf_eq A s (sf_sgn 16) 4 = false → Q (some (iq_i 0)) g l) (f : Nat) : ∀ k : Nat, k + f = 4 → sf_eq A s (sf_sgn 16) k = true → iq_P N xs 72 28 [some (iq_r 10), some (iq_r 1000026), some (iq_i k)] [] g l Q := by
  have hn := h.2.1
  induction f with
  | zero =>
    intro k hk he
    have e : k = 4 := by omega
    subst e
    exact B72_p28_10_1000026 _ _ _ (sp66_16 ⟨_, rfl, by omega, fun _ => q1 he, fun h => by omega⟩)
  | succ f ih =>
    intro k hk he
    refine B72_p28_10_1000026 _ _ _ (sp66_16 ⟨_, rfl, by omega, fun h => by omega, fun _ => ?_⟩)
    rw [e5]
    have cr := h.r (k := s + k) (by omega) (by omega)
    refine sp56 h (by omega) ⟨_, rfl, sp71_16 (by omega) (fun c2 => ⟨_, rfl, by omega, fun d => ?_, fun d => q0 (sf_eqn (k := k) (by omega) d)⟩)⟩
    rw [show ((k : Nat) : Int) + 1 = ((k + 1 : Nat) : Int) by omega]
    exact ih (k + 1) (by omega) (by rw [sf_eq, he, d]; simp)
theorem sp72_16 {N : Nat} {xs : Nat → Int32} {Q : iq_T} {g : iq_I} {l : iq_J} {A : Int → Int} {n s e : Int} (h : sf_AB g A n) (e3 : g 10 3 = e) (e5 : g 10 5 = s) (k4 : 0 ≤ g 10 4 ∧ g 10 4 ≤ 4) (hs : 0 ≤ s ∧ s ≤ e ∧ e ≤ n) (q1 : g 10 4 = 1 → sf_kw A s e 15 = true → Q (some (iq_i 1)) g l) (q0 : ¬ (g 10 4 = 1 ∧ sf_kw A s e 15 = true) → Q (some (iq_i 0)) g l) : iq_P N xs 72 0 [some (iq_r 10), some (iq_r 1000026), none] [] g l Q := by
  have hn := h.2.1
  rw [← sf_wk_16] at q1 q0
  unfold sf_wd at q1 q0
  refine B72_10_1000026 _ _ ⟨by omega, fun c => q0 (fun z => c z.1), fun c => sp66_16 ⟨_, rfl, ?_⟩⟩
  rw [e3, e5]
  refine ⟨by omega, fun d => sp72p_16 h e5 (by omega) (fun t => q1 c ?_) (fun t => q0 (fun z => ?_)) 4 0 (by omega) rfl, fun d => q0 (fun z => ?_)⟩
  · rw [t]; simp; omega
  · have := z.2; rw [t] at this; simp at this
  · have := z.2; simp at this; omega
theorem sf_we_17 : ∀ j : Fin 4, sf_sgn 17 (j.val : Int) = sf_sgn 23 ((sf_K 16 : Int) + (j.val : Int)) := by decide +kernel
theorem sf_wk_17 (A : Int → Int) (s e : Int) : sf_wd A s e (sf_sgn 17) 4 = sf_kw A s e 16 := by
  unfold sf_kw
  exact sf_wd_congr (L := 4) (fun j hj => sf_we_17 ⟨j, hj⟩)
theorem sp72p_17 {N : Nat} {xs : Nat → Int32} {Q : iq_T} {g : iq_I} {l : iq_J} {A : Int → Int} {n s : Int} (h : sf_AB g A n) (e5 : g 10 5 = s) (hs : 0 ≤ s ∧ s + 4 ≤ n) (q1 : sf_eq A s (sf_sgn 17) 4 = true → Q (some (iq_i 1)) g l) (q0 : sf_eq A s (sf_sgn 17) 4 = false → Q (some (iq_i 0)) g l) (f : Nat) : ∀ k : Nat, k + f = 4 → sf_eq A s (sf_sgn 17) k = true → iq_P N xs 72 28 [some (iq_r 10), some (iq_r 1000027), some (iq_i k)] [] g l Q := by
  have hn := h.2.1
  induction f with
  | zero =>
    intro k hk he
    have e : k = 4 := by omega
    subst e
    exact B72_p28_10_1000027 _ _ _ (sp66_17 ⟨_, rfl, by omega, fun _ => q1 he, fun h => by omega⟩)
  | succ f ih =>
    intro k hk he
    refine B72_p28_10_1000027 _ _ _ (sp66_17 ⟨_, rfl, by omega, fun h => by omega, fun _ => ?_⟩)
    rw [e5]
    have cr := h.r (k := s + k) (by omega) (by omega)
    refine sp56 h (by omega) ⟨_, rfl, sp71_17 (by omega) (fun c2 => ⟨_, rfl, by omega, fun d => ?_, fun d => q0 (sf_eqn (k := k) (by omega) d)⟩)⟩
    rw [show ((k : Nat) : Int) + 1 = ((k + 1 : Nat) : Int) by omega]
    exact ih (k + 1) (by omega) (by rw [sf_eq, he, d]; simp)
theorem sp72_17 {N : Nat} {xs : Nat → Int32} {Q : iq_T} {g : iq_I} {l : iq_J} {A : Int → Int} {n s e : Int} (h : sf_AB g A n) (e3 : g 10 3 = e) (e5 : g 10 5 = s) (k4 : 0 ≤ g 10 4 ∧ g 10 4 ≤ 4) (hs : 0 ≤ s ∧ s ≤ e ∧ e ≤ n) (q1 : g 10 4 = 1 → sf_kw A s e 16 = true → Q (some (iq_i 1)) g l) (q0 : ¬ (g 10 4 = 1 ∧ sf_kw A s e 16 = true) → Q (some (iq_i 0)) g l) : iq_P N xs 72 0 [some (iq_r 10), some (iq_r 1000027), none] [] g l Q := by
  have hn := h.2.1
  rw [← sf_wk_17] at q1 q0
  unfold sf_wd at q1 q0
  refine B72_10_1000027 _ _ ⟨by omega, fun c => q0 (fun z => c z.1), fun c => sp66_17 ⟨_, rfl, ?_⟩⟩
  rw [e3, e5]
  refine ⟨by omega, fun d => sp72p_17 h e5 (by omega) (fun t => q1 c ?_) (fun t => q0 (fun z => ?_)) 4 0 (by omega) rfl, fun d => q0 (fun z => ?_)⟩
  · rw [t]; simp; omega
  · have := z.2; rw [t] at this; simp at this
  · have := z.2; simp at this; omega
theorem sf_we_18 : ∀ j : Fin 5, sf_sgn 18 (j.val : Int) = sf_sgn 23 ((sf_K 13 : Int) + (j.val : Int)) := by decide +kernel
theorem sf_wk_18 (A : Int → Int) (s e : Int) : sf_wd A s e (sf_sgn 18) 5 = sf_kw A s e 13 := by
  unfold sf_kw
  exact sf_wd_congr (L := 5) (fun j hj => sf_we_18 ⟨j, hj⟩)
theorem sp72p_18 {N : Nat} {xs : Nat → Int32} {Q : iq_T} {g : iq_I} {l : iq_J} {A : Int → Int} {n s : Int} (h : sf_AB g A n) (e5 : g 10 5 = s) (hs : 0 ≤ s ∧ s + 5 ≤ n) (q1 : sf_eq A s (sf_sgn 18) 5 = true → Q (some (iq_i 1)) g l) (q0 : sf_eq A s (sf_sgn 18) 5 = false → Q (some (iq_i 0)) g l) (f : Nat) : ∀ k : Nat, k + f = 5 → sf_eq A s (sf_sgn 18) k = true → iq_P N xs 72 28 [some (iq_r 10), some (iq_r 1000028), some (iq_i k)] [] g l Q := by
  have hn := h.2.1
  induction f with
  | zero =>
    intro k hk he
    have e : k = 5 := by omega
    subst e
    exact B72_p28_10_1000028 _ _ _ (sp66_18 ⟨_, rfl, by omega, fun _ => q1 he, fun h => by omega⟩)
  | succ f ih =>
    intro k hk he
    refine B72_p28_10_1000028 _ _ _ (sp66_18 ⟨_, rfl, by omega, fun h => by omega, fun _ => ?_⟩)
    rw [e5]
    have cr := h.r (k := s + k) (by omega) (by omega)
    refine sp56 h (by omega) ⟨_, rfl, sp71_18 (by omega) (fun c2 => ⟨_, rfl, by omega, fun d => ?_, fun d => q0 (sf_eqn (k := k) (by omega) d)⟩)⟩
    rw [show ((k : Nat) : Int) + 1 = ((k + 1 : Nat) : Int) by omega]
    exact ih (k + 1) (by omega) (by rw [sf_eq, he, d]; simp)
theorem sp72_18 {N : Nat} {xs : Nat → Int32} {Q : iq_T} {g : iq_I} {l : iq_J} {A : Int → Int} {n s e : Int} (h : sf_AB g A n) (e3 : g 10 3 = e) (e5 : g 10 5 = s) (k4 : 0 ≤ g 10 4 ∧ g 10 4 ≤ 4) (hs : 0 ≤ s ∧ s ≤ e ∧ e ≤ n) (q1 : g 10 4 = 1 → sf_kw A s e 13 = true → Q (some (iq_i 1)) g l) (q0 : ¬ (g 10 4 = 1 ∧ sf_kw A s e 13 = true) → Q (some (iq_i 0)) g l) : iq_P N xs 72 0 [some (iq_r 10), some (iq_r 1000028), none] [] g l Q := by
  have hn := h.2.1
  rw [← sf_wk_18] at q1 q0
  unfold sf_wd at q1 q0
  refine B72_10_1000028 _ _ ⟨by omega, fun c => q0 (fun z => c z.1), fun c => sp66_18 ⟨_, rfl, ?_⟩⟩
  rw [e3, e5]
  refine ⟨by omega, fun d => sp72p_18 h e5 (by omega) (fun t => q1 c ?_) (fun t => q0 (fun z => ?_)) 5 0 (by omega) rfl, fun d => q0 (fun z => ?_)⟩
  · rw [t]; simp; omega
  · have := z.2; rw [t] at this; simp at this
  · have := z.2; simp at this; omega
theorem sf_we_19 : ∀ j : Fin 4, sf_sgn 19 (j.val : Int) = sf_sgn 23 ((sf_K 18 : Int) + (j.val : Int)) := by decide +kernel
theorem sf_wk_19 (A : Int → Int) (s e : Int) : sf_wd A s e (sf_sgn 19) 4 = sf_kw A s e 18 := by
  unfold sf_kw
  exact sf_wd_congr (L := 4) (fun j hj => sf_we_19 ⟨j, hj⟩)
theorem sp72p_19 {N : Nat} {xs : Nat → Int32} {Q : iq_T} {g : iq_I} {l : iq_J} {A : Int → Int} {n s : Int} (h : sf_AB g A n) (e5 : g 10 5 = s) (hs : 0 ≤ s ∧ s + 4 ≤ n) (q1 : sf_eq A s (sf_sgn 19) 4 = true → Q (some (iq_i 1)) g l) (q0 : sf_eq A s (sf_sgn 19) 4 = false → Q (some (iq_i 0)) g l) (f : Nat) : ∀ k : Nat, k + f = 4 → sf_eq A s (sf_sgn 19) k = true → iq_P N xs 72 28 [some (iq_r 10), some (iq_r 1000029), some (iq_i k)] [] g l Q := by
  have hn := h.2.1
  induction f with
  | zero =>
    intro k hk he
    have e : k = 4 := by omega
    subst e
    exact B72_p28_10_1000029 _ _ _ (sp66_19 ⟨_, rfl, by omega, fun _ => q1 he, fun h => by omega⟩)
  | succ f ih =>
    intro k hk he
    refine B72_p28_10_1000029 _ _ _ (sp66_19 ⟨_, rfl, by omega, fun h => by omega, fun _ => ?_⟩)
    rw [e5]
    have cr := h.r (k := s + k) (by omega) (by omega)
    refine sp56 h (by omega) ⟨_, rfl, sp71_19 (by omega) (fun c2 => ⟨_, rfl, by omega, fun d => ?_, fun d => q0 (sf_eqn (k := k) (by omega) d)⟩)⟩
    rw [show ((k : Nat) : Int) + 1 = ((k + 1 : Nat) : Int) by omega]
    exact ih (k + 1) (by omega) (by rw [sf_eq, he, d]; simp)
theorem sp72_19 {N : Nat} {xs : Nat → Int32} {Q : iq_T} {g : iq_I} {l : iq_J} {A : Int → Int} {n s e : Int} (h : sf_AB g A n) (e3 : g 10 3 = e) (e5 : g 10 5 = s) (k4 : 0 ≤ g 10 4 ∧ g 10 4 ≤ 4) (hs : 0 ≤ s ∧ s ≤ e ∧ e ≤ n) (q1 : g 10 4 = 1 → sf_kw A s e 18 = true → Q (some (iq_i 1)) g l) (q0 : ¬ (g 10 4 = 1 ∧ sf_kw A s e 18 = true) → Q (some (iq_i 0)) g l) : iq_P N xs 72 0 [some (iq_r 10), some (iq_r 1000029), none] [] g l Q := by
  have hn := h.2.1
  rw [← sf_wk_19] at q1 q0
  unfold sf_wd at q1 q0
  refine B72_10_1000029 _ _ ⟨by omega, fun c => q0 (fun z => c z.1), fun c => sp66_19 ⟨_, rfl, ?_⟩⟩
  rw [e3, e5]
  refine ⟨by omega, fun d => sp72p_19 h e5 (by omega) (fun t => q1 c ?_) (fun t => q0 (fun z => ?_)) 4 0 (by omega) rfl, fun d => q0 (fun z => ?_)⟩
  · rw [t]; simp; omega
  · have := z.2; rw [t] at this; simp at this
  · have := z.2; simp at this; omega
theorem sf_we_20 : ∀ j : Fin 3, sf_sgn 20 (j.val : Int) = sf_sgn 23 ((sf_K 20 : Int) + (j.val : Int)) := by decide +kernel
theorem sf_wk_20 (A : Int → Int) (s e : Int) : sf_wd A s e (sf_sgn 20) 3 = sf_kw A s e 20 := by
  unfold sf_kw
  exact sf_wd_congr (L := 3) (fun j hj => sf_we_20 ⟨j, hj⟩)
theorem sp72p_20 {N : Nat} {xs : Nat → Int32} {Q : iq_T} {g : iq_I} {l : iq_J} {A : Int → Int} {n s : Int} (h : sf_AB g A n) (e5 : g 10 5 = s) (hs : 0 ≤ s ∧ s + 3 ≤ n) (q1 : sf_eq A s (sf_sgn 20) 3 = true → Q (some (iq_i 1)) g l) (q0 : sf_eq A s (sf_sgn 20) 3 = false → Q (some (iq_i 0)) g l) (f : Nat) : ∀ k : Nat, k + f = 3 → sf_eq A s (sf_sgn 20) k = true → iq_P N xs 72 28 [some (iq_r 10), some (iq_r 1000030), some (iq_i k)] [] g l Q := by
  have hn := h.2.1
  induction f with
  | zero =>
    intro k hk he
    have e : k = 3 := by omega
    subst e
    exact B72_p28_10_1000030 _ _ _ (sp66_20 ⟨_, rfl, by omega, fun _ => q1 he, fun h => by omega⟩)
  | succ f ih =>
    intro k hk he
    refine B72_p28_10_1000030 _ _ _ (sp66_20 ⟨_, rfl, by omega, fun h => by omega, fun _ => ?_⟩)
    rw [e5]
    have cr := h.r (k := s + k) (by omega) (by omega)
    refine sp56 h (by omega) ⟨_, rfl, sp71_20 (by omega) (fun c2 => ⟨_, rfl, by omega, fun d => ?_, fun d => q0 (sf_eqn (k := k) (by omega) d)⟩)⟩
    rw [show ((k : Nat) : Int) + 1 = ((k + 1 : Nat) : Int) by omega]
    exact ih (k + 1) (by omega) (by rw [sf_eq, he, d]; simp)
theorem sp72_20 {N : Nat} {xs : Nat → Int32} {Q : iq_T} {g : iq_I} {l : iq_J} {A : Int → Int} {n s e : Int} (h : sf_AB g A n) (e3 : g 10 3 = e) (e5 : g 10 5 = s) (k4 : 0 ≤ g 10 4 ∧ g 10 4 ≤ 4) (hs : 0 ≤ s ∧ s ≤ e ∧ e ≤ n) (q1 : g 10 4 = 1 → sf_kw A s e 20 = true → Q (some (iq_i 1)) g l) (q0 : ¬ (g 10 4 = 1 ∧ sf_kw A s e 20 = true) → Q (some (iq_i 0)) g l) : iq_P N xs 72 0 [some (iq_r 10), some (iq_r 1000030), none] [] g l Q := by
  have hn := h.2.1
  rw [← sf_wk_20] at q1 q0
  unfold sf_wd at q1 q0
  refine B72_10_1000030 _ _ ⟨by omega, fun c => q0 (fun z => c z.1), fun c => sp66_20 ⟨_, rfl, ?_⟩⟩
  rw [e3, e5]
  refine ⟨by omega, fun d => sp72p_20 h e5 (by omega) (fun t => q1 c ?_) (fun t => q0 (fun z => ?_)) 3 0 (by omega) rfl, fun d => q0 (fun z => ?_)⟩
  · rw [t]; simp; omega
  · have := z.2; rw [t] at this; simp at this
  · have := z.2; simp at this; omega
theorem sf_we_21 : ∀ j : Fin 6, sf_sgn 21 (j.val : Int) = sf_sgn 23 ((sf_K 9 : Int) + (j.val : Int)) := by decide +kernel
theorem sf_wk_21 (A : Int → Int) (s e : Int) : sf_wd A s e (sf_sgn 21) 6 = sf_kw A s e 9 := by
  unfold sf_kw
  exact sf_wd_congr (L := 6) (fun j hj => sf_we_21 ⟨j, hj⟩)
theorem sp72p_21 {N : Nat} {xs : Nat → Int32} {Q : iq_T} {g : iq_I} {l : iq_J} {A : Int → Int} {n s : Int} (h : sf_AB g A n) (e5 : g 10 5 = s) (hs : 0 ≤ s ∧ s + 6 ≤ n) (q1 : sf_eq A s (sf_sgn 21) 6 = true → Q (some (iq_i 1)) g l) (q0 : sf_eq A s (sf_sgn 21) 6 = false → Q (some (iq_i 0)) g l) (f : Nat) : ∀ k : Nat, k + f = 6 → sf_eq A s (sf_sgn 21) k = true → iq_P N xs 72 28 [some (iq_r 10), some (iq_r 1000031), some (iq_i k)] [] g l Q := by
  have hn := h.2.1
  induction f with
  | zero =>
    intro k hk he
    have e : k = 6 := by omega
    subst e
    exact B72_p28_10_1000031 _ _ _ (sp66_21 ⟨_, rfl, by omega, fun _ => q1 he, fun h => by omega⟩)
  | succ f ih =>
    intro k hk he
    refine B72_p28_10_1000031 _ _ _ (sp66_21 ⟨_, rfl, by omega, fun h => by omega, fun _ => ?_⟩)
    rw [e5]
    have cr := h.r (k := s + k) (by omega) (by omega)
    refine sp56 h (by omega) ⟨_, rfl, sp71_21 (by omega) (fun c2 => ⟨_, rfl, by omega, fun d => ?_, fun d => q0 (sf_eqn (k := k) (by omega) d)⟩)⟩
    rw [show ((k : Nat) : Int) + 1 = ((k + 1 : Nat) : Int) by omega]
    exact ih (k + 1) (by omega) (by rw [sf_eq, he, d]; simp)
theorem sp72_21 {N : Nat} {xs : Nat → Int32} {Q : iq_T} {g : iq_I} {l : iq_J} {A : Int → Int} {n s e : Int} (h : sf_AB g A n) (e3 : g 10 3 = e) (e5 : g 10 5 = s) (k4 : 0 ≤ g 10 4 ∧ g 10 4 ≤ 4) (hs : 0 ≤ s ∧ s ≤ e ∧ e ≤ n) (q1 : g 10 4 = 1 → sf_kw A s e 9 = true → Q (some (iq_i 1)) g l) (q0 : ¬ (g 10 4 = 1 ∧ sf_kw A s e 9 = true) → Q (some (iq_i 0)) g l) : iq_P N xs 72 0 [some (iq_r 10), some (iq_r 1000031), none] [] g l Q := by
  have hn := h.2.1
  rw [← sf_wk_21] at q1 q0
  unfold sf_wd at q1 q0
  refine B72_10_1000031 _ _ ⟨by omega, fun c => q0 (fun z => c z.1), fun c => sp66_21 ⟨_, rfl, ?_⟩⟩
  rw [e3, e5]
  refine ⟨by omega, fun d => sp72p_21 h e5 (by omega) (fun t => q1 c ?_) (fun t => q0 (fun z => ?_)) 6 0 (by omega) rfl, fun d => q0 (fun z => ?_)⟩
  · rw [t]; simp; omega
  · have := z.2; rw [t] at this; simp at this
  · have := z.2; simp at this; omega
theorem sf_we_22 : ∀ j : Fin 6, sf_sgn 22 (j.val : Int) = sf_sgn 23 ((sf_K 19 : Int) + (j.val : Int)) := by decide +kernel
theorem sf_wk_22 (A : Int → Int) (s e : Int) : sf_wd A s e (sf_sgn 22) 6 = sf_kw A s e 19 := by
  unfold sf_kw
  exact sf_wd_congr (L := 6) (fun j hj => sf_we_22 ⟨j, hj⟩)
theorem sp72p_22 {N : Nat} {xs : Nat → Int32} {Q : iq_T} {g : iq_I} {l : iq_J} {A : Int → Int} {n s : Int} (h : sf_AB g A n) (e5 : g 10 5 = s) (hs : 0 ≤ s ∧ s + 6 ≤ n) (q1 : sf_eq A s (sf_sgn 22) 6 = true → Q (some (iq_i 1)) g l) (q0 : sf_eq A s (sf_sgn 22) 6 = false → Q (some (iq_i 0)) g l) (f : Nat) : ∀ k : Nat, k + f = 6 → sf_eq A s (sf_sgn 22) k = true → iq_P N xs 72 28 [some (iq_r 10), some (iq_r 1000032), some (iq_i k)] [] g l Q := by
  have hn := h.2.1
  induction f with
  | zero =>
    intro k hk he
    have e : k = 6 := by omega
    subst e
    exact B72_p28_10_1000032 _ _ _ (sp66_22 ⟨_, rfl, by omega, fun _ => q1 he, fun h => by omega⟩)
  | succ f ih =>
    intro k hk he
    refine B72_p28_10_1000032 _ _ _ (sp66_22 ⟨_, rfl, by omega, fun h => by omega, fun _ => ?_⟩)
    rw [e5]
    have cr := h.r (k := s + k) (by omega) (by omega)
    refine sp56 h (by omega) ⟨_, rfl, sp71_22 (by omega) (fun c2 => ⟨_, rfl, by omega, fun d => ?_, fun d => q0 (sf_eqn (k := k) (by omega) d)⟩)⟩
    rw [show ((k : Nat) : Int) + 1 = ((k + 1 : Nat) : Int) by omega]
    exact ih (k + 1) (by omega) (by rw [sf_eq, he, d]; simp)
theorem sp72_22 {N : Nat} {xs : Nat → Int32} {Q : iq_T} {g : iq_I} {l : iq_J} {A : Int → Int} {n s e : Int} (h : sf_AB g A n) (e3 : g 10 3 = e) (e5 : g 10 5 = s) (k4 : 0 ≤ g 10 4 ∧ g 10 4 ≤ 4) (hs : 0 ≤ s ∧ s ≤ e ∧ e ≤ n) (q1 : g 10 4 = 1 → sf_kw A s e 19 = true → Q (some (iq_i 1)) g l) (q0 : ¬ (g 10 4 = 1 ∧ sf_kw A s e 19 = true) → Q (some (iq_i 0)) g l) : iq_P N xs 72 0 [some (iq_r 10), some (iq_r 1000032), none] [] g l Q := by
  have hn := h.2.1
  rw [← sf_wk_22] at q1 q0
  unfold sf_wd at q1 q0
  refine B72_10_1000032 _ _ ⟨by omega, fun c => q0 (fun z => c z.1), fun c => sp66_22 ⟨_, rfl, ?_⟩⟩
  rw [e3, e5]
  refine ⟨by omega, fun d => sp72p_22 h e5 (by omega) (fun t => q1 c ?_) (fun t => q0 (fun z => ?_)) 6 0 (by omega) rfl, fun d => q0 (fun z => ?_)⟩
  · rw [t]; simp; omega
  · have := z.2; rw [t] at this; simp at this
  · have := z.2; simp at this; omega
/-! the model -/
def sf_key (A : Int → Int) (s e : Int) : Nat → Nat → Int
  | 0, _ => -1
  | f + 1, n => if sf_kw A s e n = true then n else sf_key A s e f (n + 1)
theorem sf_kd : ∀ n n' : Fin 21, n ≠ n' → sf_Ln n.val = sf_Ln n'.val → ∃ j : Fin 9, j.val < sf_Ln n.val ∧ sf_sgn 23 ((sf_K n.val : Int) + (j.val : Int)) ≠ sf_sgn 23 ((sf_K n'.val : Int) + (j.val : Int)) := by decide +kernel
theorem sf_kb : ∀ n : Fin 21, ∀ j : Fin 10, (j.val < sf_Ln n.val → sf_sgn 23 ((sf_K n.val : Int) + (j.val : Int)) ≠ 32) ∧ (j.val = sf_Ln n.val → sf_sgn 23 ((sf_K n.val : Int) + (j.val : Int)) = 32) := by decide +kernel
theorem sf_kn : ∀ n : Fin 21, sf_K (n.val + 1) = sf_K n.val + sf_Ln n.val + 1 ∧ sf_K n.val + sf_Ln n.val < 121 ∧ sf_Ln n.val < 10 ∧ 0 < sf_Ln n.val := by decide +kernel
/-- one word at most fits -/
theorem sf_kw1 {A : Int → Int} {s e : Int} {n n' : Nat} (hn : n < 21) (hn' : n' < 21) (h : sf_kw A s e n = true) (h' : sf_kw A s e n' = true) : n = n' := by
  by_cases c : n = n'
  · exact c
  · unfold sf_kw sf_wd at h h'
    rw [Bool.and_eq_true, decide_eq_true_eq] at h h'
    have eL : sf_Ln n = sf_Ln n' := by omega
    obtain ⟨j, j1, j2⟩ := sf_kd ⟨n, hn⟩ ⟨n', hn'⟩ (fun z => c (by injection z)) eL
    have a := (sf_eqi _).mp h.2 j.val j1
    have b := (sf_eqi _).mp h'.2 j.val (by rw [← eL]; exact j1)
    exact absurd (a.symm.trans b) j2
theorem sf_keyv {A : Int → Int} {s e : Int} (f : Nat) : ∀ n : Nat, (sf_key A s e f n = -1 ∧ ∀ i, n ≤ i → i < n + f → sf_kw A s e i = false) ∨ (∃ i : Nat, (n ≤ i ∧ i < n + f) ∧ sf_kw A s e i = true ∧ sf_key A s e f n = i) := by
  induction f with
  | zero => intro n; exact .inl ⟨rfl, fun i h1 h2 => by omega⟩
  | succ f ih =>
    intro n
    rw [sf_key]
    by_cases c : sf_kw A s e n = true
    · rw [if_pos c]
      exact .inr ⟨n, by omega, c, rfl⟩
    · rw [if_neg c]
      rcases ih (n + 1) with ⟨h1, h2⟩ | ⟨i, h1, h2, h3⟩
      · refine .inl ⟨h1, fun i y1 y2 => ?_⟩
        by_cases e : i = n
        · rw [e]; simpa using c
        · exact h2 i (by omega) (by omega)
      · exact .inr ⟨i, by omega, h2, h3⟩
def sf_ky (A : Int → Int) (s e : Int) : Int := sf_key A s e 21 0
theorem sf_kyi {A : Int → Int} {s e : Int} {n : Nat} (hn : n < 21) : sf_kw A s e n = true ↔ sf_ky A s e = n := by
  unfold sf_ky
  rcases sf_keyv (A := A) (s := s) (e := e) 21 0 with ⟨h1, h2⟩ | ⟨i, h1, h2, h3⟩
  · constructor
    · intro h; rw [h2 n (by omega) (by omega)] at h; cases h
    · intro h; omega
  · constructor
    · intro h
      rw [h3, sf_kw1 (by omega) hn h2 h]
    · intro h
      have : i = n := by omega
      rw [← this]; exact h2
theorem sf_kyR (A : Int → Int) (s e : Int) : -1 ≤ sf_ky A s e ∧ sf_ky A s e ≤ 20 := by
  unfold sf_ky
  rcases sf_keyv (A := A) (s := s) (e := e) 21 0 with ⟨h1, h2⟩ | ⟨i, h1, h2, h3⟩
  · omega
  · omega
