/-! pour in the class. -/
/-- why pour is refused: 0 if it isn't -/
def sf_wr (g : iq_I) (a p b q n : Int) : Int := if ((0 ≤ a ∧ a < 4) ∧ 0 ≤ b ∧ b < 4) ∧ 0 ≤ p ∧ 0 ≤ q ∧ 0 ≤ n then (if g 80 a = -1 ∨ g 80 b = -1 then 2 else if g 79 a = g 79 b then (if p + n ≤ g 80 a ∧ q + n ≤ g 80 b then 0 else 3) else 8) else 1
theorem pour_2_2 {N : Nat} {xs : Nat → Int32} {Q : iq_T} {g : iq_I} {l : iq_J} {x y p q n : Int} (hT : iq_TR g l) (hp : -2147483648 ≤ p ∧ p ≤ 2147483647) (hq : -2147483648 ≤ q ∧ q ≤ 2147483647) (hn : -2147483648 ≤ n ∧ n ≤ 2147483647) (q1 : sf_wr g 0 p 0 q n = 0 → Q (some (iq_i 1)) (iq_uz g 0 0 0) (iq_rz l 3 (iq_cz (l 3) (l 3) p q n))) (q0 : ¬ sf_wr g 0 p 0 q n = 0 → Q (some (iq_i 0)) (iq_uz g 0 0 (sf_wr g 0 p 0 q n)) l) : iq_P N xs 49 12 [some (iq_r 0), some (iq_i x), some (iq_i p), some (iq_i y), some (iq_i q), some (iq_i n), some (iq_r 2), none] [iq_r 2] g l Q := by
  obtain ⟨a1, a2, a3, a4⟩ := sf_T0 hT
  obtain ⟨b1, b2, b3, b4⟩ := sf_T0 hT
  unfold sf_wr at q1 q0
  have no1 : ¬ (0 ≤ p ∧ 0 ≤ q ∧ 0 ≤ n) → iq_P N xs 28 0 [some (iq_r 0), some (iq_i 1)] [] g l (fun r g1 l2 => ∃ z3, r = some (iq_i z3) ∧ ((z3 = 0 ∨ z3 = 1) ∧ Q (some (iq_i z3)) g1 l2)) := fun c => by
    rw [if_neg (fun z => c z.2)] at q0
    exact sp28 ⟨_, rfl, .inl rfl, q0 (by omega)⟩
  refine B49_q12_2_2 _ _ _ _ _ _ _ ⟨by omega, fun c => no1 (by omega), fun c1 => ⟨by omega, fun c => no1 (by omega), fun c2 => ⟨by omega, fun c3 => ?_, fun c => no1 (by omega)⟩⟩⟩
  rw [if_pos ⟨by omega, c1, c2, c3⟩] at q1 q0
  refine B35_2 _ _ ⟨by omega, fun d => ⟨_, rfl, by omega, fun h => by omega, fun _ => B35_2 _ _ ⟨by omega, fun e => ⟨_, rfl, by omega, fun _ => ⟨by omega, fun f => ?_, fun f => sp28 ⟨_, rfl, .inl rfl, ?_⟩⟩, fun h => by omega⟩, fun e => ⟨_, rfl, by omega, fun h => by omega, fun _ => sp28 ⟨_, rfl, .inl rfl, ?_⟩⟩⟩⟩, fun d => ⟨_, rfl, by omega, fun _ => sp28 ⟨_, rfl, .inl rfl, ?_⟩, fun h => by omega⟩⟩
  · rw [if_neg (by omega), if_pos (by omega)] at q1 q0
    refine sp48_2 hp hn (by omega) (fun u => ⟨_, rfl, by omega, fun h => by omega, fun _ => sp48_2 hq hn (by omega) (fun w => ⟨_, rfl, by omega, fun _ => ⟨by omega, B49_h133_2_2 _ _ _ _ _ _ _ (sp30 ⟨_, rfl, .inr rfl, ?_⟩)⟩, fun h => by omega⟩) (fun w => ⟨_, rfl, by omega, fun h => by omega, fun _ => sp28 ⟨_, rfl, .inl rfl, ?_⟩⟩)⟩) (fun u => ⟨_, rfl, by omega, fun _ => sp28 ⟨_, rfl, .inl rfl, ?_⟩, fun h => by omega⟩)
    · rw [if_pos (by omega)] at q1; exact q1 rfl
    · rw [if_neg (by omega)] at q0; exact q0 (by omega)
    · rw [if_neg (by omega)] at q0; exact q0 (by omega)
  · rw [if_neg (by omega), if_neg (by omega)] at q0; exact q0 (by omega)
  · rw [if_pos (by omega)] at q0; exact q0 (by omega)
  · rw [if_pos (by omega)] at q0; exact q0 (by omega)
theorem pour_2_4 {N : Nat} {xs : Nat → Int32} {Q : iq_T} {g : iq_I} {l : iq_J} {x y p q n : Int} (hT : iq_TR g l) (hp : -2147483648 ≤ p ∧ p ≤ 2147483647) (hq : -2147483648 ≤ q ∧ q ≤ 2147483647) (hn : -2147483648 ≤ n ∧ n ≤ 2147483647) (q1 : sf_wr g 0 p 1 q n = 0 → Q (some (iq_i 1)) (iq_uz g 0 0 0) (iq_rz l 5 (iq_cz (l 3) (l 5) p q n))) (q0 : ¬ sf_wr g 0 p 1 q n = 0 → Q (some (iq_i 0)) (iq_uz g 0 0 (sf_wr g 0 p 1 q n)) l) : iq_P N xs 49 12 [some (iq_r 0), some (iq_i x), some (iq_i p), some (iq_i y), some (iq_i q), some (iq_i n), some (iq_r 2), none] [iq_r 4] g l Q := by
  obtain ⟨a1, a2, a3, a4⟩ := sf_T0 hT
  obtain ⟨b1, b2, b3, b4⟩ := sf_T1 hT
  unfold sf_wr at q1 q0
  have no1 : ¬ (0 ≤ p ∧ 0 ≤ q ∧ 0 ≤ n) → iq_P N xs 28 0 [some (iq_r 0), some (iq_i 1)] [] g l (fun r g1 l2 => ∃ z3, r = some (iq_i z3) ∧ ((z3 = 0 ∨ z3 = 1) ∧ Q (some (iq_i z3)) g1 l2)) := fun c => by
    rw [if_neg (fun z => c z.2)] at q0
    exact sp28 ⟨_, rfl, .inl rfl, q0 (by omega)⟩
  refine B49_q12_4_2 _ _ _ _ _ _ _ ⟨by omega, fun c => no1 (by omega), fun c1 => ⟨by omega, fun c => no1 (by omega), fun c2 => ⟨by omega, fun c3 => ?_, fun c => no1 (by omega)⟩⟩⟩
  rw [if_pos ⟨by omega, c1, c2, c3⟩] at q1 q0
  refine B35_2 _ _ ⟨by omega, fun d => ⟨_, rfl, by omega, fun h => by omega, fun _ => B35_4 _ _ ⟨by omega, fun e => ⟨_, rfl, by omega, fun _ => ⟨by omega, fun f => ?_, fun f => sp28 ⟨_, rfl, .inl rfl, ?_⟩⟩, fun h => by omega⟩, fun e => ⟨_, rfl, by omega, fun h => by omega, fun _ => sp28 ⟨_, rfl, .inl rfl, ?_⟩⟩⟩⟩, fun d => ⟨_, rfl, by omega, fun _ => sp28 ⟨_, rfl, .inl rfl, ?_⟩, fun h => by omega⟩⟩
  · rw [if_neg (by omega), if_pos (by omega)] at q1 q0
    refine sp48_2 hp hn (by omega) (fun u => ⟨_, rfl, by omega, fun h => by omega, fun _ => sp48_4 hq hn (by omega) (fun w => ⟨_, rfl, by omega, fun _ => ⟨by omega, B49_h133_2_4 _ _ _ _ _ _ _ (sp30 ⟨_, rfl, .inr rfl, ?_⟩)⟩, fun h => by omega⟩) (fun w => ⟨_, rfl, by omega, fun h => by omega, fun _ => sp28 ⟨_, rfl, .inl rfl, ?_⟩⟩)⟩) (fun u => ⟨_, rfl, by omega, fun _ => sp28 ⟨_, rfl, .inl rfl, ?_⟩, fun h => by omega⟩)
    · rw [if_pos (by omega)] at q1; exact q1 rfl
    · rw [if_neg (by omega)] at q0; exact q0 (by omega)
    · rw [if_neg (by omega)] at q0; exact q0 (by omega)
  · rw [if_neg (by omega), if_neg (by omega)] at q0; exact q0 (by omega)
  · rw [if_pos (by omega)] at q0; exact q0 (by omega)
  · rw [if_pos (by omega)] at q0; exact q0 (by omega)
theorem pour_2_6 {N : Nat} {xs : Nat → Int32} {Q : iq_T} {g : iq_I} {l : iq_J} {x y p q n : Int} (hT : iq_TR g l) (hp : -2147483648 ≤ p ∧ p ≤ 2147483647) (hq : -2147483648 ≤ q ∧ q ≤ 2147483647) (hn : -2147483648 ≤ n ∧ n ≤ 2147483647) (q1 : sf_wr g 0 p 2 q n = 0 → Q (some (iq_i 1)) (iq_uz g 0 0 0) (iq_rz l 7 (iq_cz (l 3) (l 7) p q n))) (q0 : ¬ sf_wr g 0 p 2 q n = 0 → Q (some (iq_i 0)) (iq_uz g 0 0 (sf_wr g 0 p 2 q n)) l) : iq_P N xs 49 12 [some (iq_r 0), some (iq_i x), some (iq_i p), some (iq_i y), some (iq_i q), some (iq_i n), some (iq_r 2), none] [iq_r 6] g l Q := by
  obtain ⟨a1, a2, a3, a4⟩ := sf_T0 hT
  obtain ⟨b1, b2, b3, b4⟩ := sf_T2 hT
  unfold sf_wr at q1 q0
  have no1 : ¬ (0 ≤ p ∧ 0 ≤ q ∧ 0 ≤ n) → iq_P N xs 28 0 [some (iq_r 0), some (iq_i 1)] [] g l (fun r g1 l2 => ∃ z3, r = some (iq_i z3) ∧ ((z3 = 0 ∨ z3 = 1) ∧ Q (some (iq_i z3)) g1 l2)) := fun c => by
    rw [if_neg (fun z => c z.2)] at q0
    exact sp28 ⟨_, rfl, .inl rfl, q0 (by omega)⟩
  refine B49_q12_6_2 _ _ _ _ _ _ _ ⟨by omega, fun c => no1 (by omega), fun c1 => ⟨by omega, fun c => no1 (by omega), fun c2 => ⟨by omega, fun c3 => ?_, fun c => no1 (by omega)⟩⟩⟩
  rw [if_pos ⟨by omega, c1, c2, c3⟩] at q1 q0
  refine B35_2 _ _ ⟨by omega, fun d => ⟨_, rfl, by omega, fun h => by omega, fun _ => B35_6 _ _ ⟨by omega, fun e => ⟨_, rfl, by omega, fun _ => ⟨by omega, fun f => ?_, fun f => sp28 ⟨_, rfl, .inl rfl, ?_⟩⟩, fun h => by omega⟩, fun e => ⟨_, rfl, by omega, fun h => by omega, fun _ => sp28 ⟨_, rfl, .inl rfl, ?_⟩⟩⟩⟩, fun d => ⟨_, rfl, by omega, fun _ => sp28 ⟨_, rfl, .inl rfl, ?_⟩, fun h => by omega⟩⟩
  · rw [if_neg (by omega), if_pos (by omega)] at q1 q0
    refine sp48_2 hp hn (by omega) (fun u => ⟨_, rfl, by omega, fun h => by omega, fun _ => sp48_6 hq hn (by omega) (fun w => ⟨_, rfl, by omega, fun _ => ⟨by omega, B49_h133_2_6 _ _ _ _ _ _ _ (sp30 ⟨_, rfl, .inr rfl, ?_⟩)⟩, fun h => by omega⟩) (fun w => ⟨_, rfl, by omega, fun h => by omega, fun _ => sp28 ⟨_, rfl, .inl rfl, ?_⟩⟩)⟩) (fun u => ⟨_, rfl, by omega, fun _ => sp28 ⟨_, rfl, .inl rfl, ?_⟩, fun h => by omega⟩)
    · rw [if_pos (by omega)] at q1; exact q1 rfl
    · rw [if_neg (by omega)] at q0; exact q0 (by omega)
    · rw [if_neg (by omega)] at q0; exact q0 (by omega)
  · rw [if_neg (by omega), if_neg (by omega)] at q0; exact q0 (by omega)
  · rw [if_pos (by omega)] at q0; exact q0 (by omega)
  · rw [if_pos (by omega)] at q0; exact q0 (by omega)
theorem pour_2_8 {N : Nat} {xs : Nat → Int32} {Q : iq_T} {g : iq_I} {l : iq_J} {x y p q n : Int} (hT : iq_TR g l) (hp : -2147483648 ≤ p ∧ p ≤ 2147483647) (hq : -2147483648 ≤ q ∧ q ≤ 2147483647) (hn : -2147483648 ≤ n ∧ n ≤ 2147483647) (q1 : sf_wr g 0 p 3 q n = 0 → Q (some (iq_i 1)) (iq_uz g 0 0 0) (iq_rz l 9 (iq_cz (l 3) (l 9) p q n))) (q0 : ¬ sf_wr g 0 p 3 q n = 0 → Q (some (iq_i 0)) (iq_uz g 0 0 (sf_wr g 0 p 3 q n)) l) : iq_P N xs 49 12 [some (iq_r 0), some (iq_i x), some (iq_i p), some (iq_i y), some (iq_i q), some (iq_i n), some (iq_r 2), none] [iq_r 8] g l Q := by
  obtain ⟨a1, a2, a3, a4⟩ := sf_T0 hT
  obtain ⟨b1, b2, b3, b4⟩ := sf_T3 hT
  unfold sf_wr at q1 q0
  have no1 : ¬ (0 ≤ p ∧ 0 ≤ q ∧ 0 ≤ n) → iq_P N xs 28 0 [some (iq_r 0), some (iq_i 1)] [] g l (fun r g1 l2 => ∃ z3, r = some (iq_i z3) ∧ ((z3 = 0 ∨ z3 = 1) ∧ Q (some (iq_i z3)) g1 l2)) := fun c => by
    rw [if_neg (fun z => c z.2)] at q0
    exact sp28 ⟨_, rfl, .inl rfl, q0 (by omega)⟩
  refine B49_q12_8_2 _ _ _ _ _ _ _ ⟨by omega, fun c => no1 (by omega), fun c1 => ⟨by omega, fun c => no1 (by omega), fun c2 => ⟨by omega, fun c3 => ?_, fun c => no1 (by omega)⟩⟩⟩
  rw [if_pos ⟨by omega, c1, c2, c3⟩] at q1 q0
  refine B35_2 _ _ ⟨by omega, fun d => ⟨_, rfl, by omega, fun h => by omega, fun _ => B35_8 _ _ ⟨by omega, fun e => ⟨_, rfl, by omega, fun _ => ⟨by omega, fun f => ?_, fun f => sp28 ⟨_, rfl, .inl rfl, ?_⟩⟩, fun h => by omega⟩, fun e => ⟨_, rfl, by omega, fun h => by omega, fun _ => sp28 ⟨_, rfl, .inl rfl, ?_⟩⟩⟩⟩, fun d => ⟨_, rfl, by omega, fun _ => sp28 ⟨_, rfl, .inl rfl, ?_⟩, fun h => by omega⟩⟩
  · rw [if_neg (by omega), if_pos (by omega)] at q1 q0
    refine sp48_2 hp hn (by omega) (fun u => ⟨_, rfl, by omega, fun h => by omega, fun _ => sp48_8 hq hn (by omega) (fun w => ⟨_, rfl, by omega, fun _ => ⟨by omega, B49_h133_2_8 _ _ _ _ _ _ _ (sp30 ⟨_, rfl, .inr rfl, ?_⟩)⟩, fun h => by omega⟩) (fun w => ⟨_, rfl, by omega, fun h => by omega, fun _ => sp28 ⟨_, rfl, .inl rfl, ?_⟩⟩)⟩) (fun u => ⟨_, rfl, by omega, fun _ => sp28 ⟨_, rfl, .inl rfl, ?_⟩, fun h => by omega⟩)
    · rw [if_pos (by omega)] at q1; exact q1 rfl
    · rw [if_neg (by omega)] at q0; exact q0 (by omega)
    · rw [if_neg (by omega)] at q0; exact q0 (by omega)
  · rw [if_neg (by omega), if_neg (by omega)] at q0; exact q0 (by omega)
  · rw [if_pos (by omega)] at q0; exact q0 (by omega)
  · rw [if_pos (by omega)] at q0; exact q0 (by omega)
theorem pour_4_2 {N : Nat} {xs : Nat → Int32} {Q : iq_T} {g : iq_I} {l : iq_J} {x y p q n : Int} (hT : iq_TR g l) (hp : -2147483648 ≤ p ∧ p ≤ 2147483647) (hq : -2147483648 ≤ q ∧ q ≤ 2147483647) (hn : -2147483648 ≤ n ∧ n ≤ 2147483647) (q1 : sf_wr g 1 p 0 q n = 0 → Q (some (iq_i 1)) (iq_uz g 0 0 0) (iq_rz l 3 (iq_cz (l 5) (l 3) p q n))) (q0 : ¬ sf_wr g 1 p 0 q n = 0 → Q (some (iq_i 0)) (iq_uz g 0 0 (sf_wr g 1 p 0 q n)) l) : iq_P N xs 49 12 [some (iq_r 0), some (iq_i x), some (iq_i p), some (iq_i y), some (iq_i q), some (iq_i n), some (iq_r 4), none] [iq_r 2] g l Q := by
  obtain ⟨a1, a2, a3, a4⟩ := sf_T1 hT
  obtain ⟨b1, b2, b3, b4⟩ := sf_T0 hT
  unfold sf_wr at q1 q0
  have no1 : ¬ (0 ≤ p ∧ 0 ≤ q ∧ 0 ≤ n) → iq_P N xs 28 0 [some (iq_r 0), some (iq_i 1)] [] g l (fun r g1 l2 => ∃ z3, r = some (iq_i z3) ∧ ((z3 = 0 ∨ z3 = 1) ∧ Q (some (iq_i z3)) g1 l2)) := fun c => by
    rw [if_neg (fun z => c z.2)] at q0
    exact sp28 ⟨_, rfl, .inl rfl, q0 (by omega)⟩
  refine B49_q12_2_4 _ _ _ _ _ _ _ ⟨by omega, fun c => no1 (by omega), fun c1 => ⟨by omega, fun c => no1 (by omega), fun c2 => ⟨by omega, fun c3 => ?_, fun c => no1 (by omega)⟩⟩⟩
  rw [if_pos ⟨by omega, c1, c2, c3⟩] at q1 q0
  refine B35_4 _ _ ⟨by omega, fun d => ⟨_, rfl, by omega, fun h => by omega, fun _ => B35_2 _ _ ⟨by omega, fun e => ⟨_, rfl, by omega, fun _ => ⟨by omega, fun f => ?_, fun f => sp28 ⟨_, rfl, .inl rfl, ?_⟩⟩, fun h => by omega⟩, fun e => ⟨_, rfl, by omega, fun h => by omega, fun _ => sp28 ⟨_, rfl, .inl rfl, ?_⟩⟩⟩⟩, fun d => ⟨_, rfl, by omega, fun _ => sp28 ⟨_, rfl, .inl rfl, ?_⟩, fun h => by omega⟩⟩
  · rw [if_neg (by omega), if_pos (by omega)] at q1 q0
    refine sp48_4 hp hn (by omega) (fun u => ⟨_, rfl, by omega, fun h => by omega, fun _ => sp48_2 hq hn (by omega) (fun w => ⟨_, rfl, by omega, fun _ => ⟨by omega, B49_h133_4_2 _ _ _ _ _ _ _ (sp30 ⟨_, rfl, .inr rfl, ?_⟩)⟩, fun h => by omega⟩) (fun w => ⟨_, rfl, by omega, fun h => by omega, fun _ => sp28 ⟨_, rfl, .inl rfl, ?_⟩⟩)⟩) (fun u => ⟨_, rfl, by omega, fun _ => sp28 ⟨_, rfl, .inl rfl, ?_⟩, fun h => by omega⟩)
    · rw [if_pos (by omega)] at q1; exact q1 rfl
    · rw [if_neg (by omega)] at q0; exact q0 (by omega)
    · rw [if_neg (by omega)] at q0; exact q0 (by omega)
  · rw [if_neg (by omega), if_neg (by omega)] at q0; exact q0 (by omega)
  · rw [if_pos (by omega)] at q0; exact q0 (by omega)
  · rw [if_pos (by omega)] at q0; exact q0 (by omega)
theorem pour_4_4 {N : Nat} {xs : Nat → Int32} {Q : iq_T} {g : iq_I} {l : iq_J} {x y p q n : Int} (hT : iq_TR g l) (hp : -2147483648 ≤ p ∧ p ≤ 2147483647) (hq : -2147483648 ≤ q ∧ q ≤ 2147483647) (hn : -2147483648 ≤ n ∧ n ≤ 2147483647) (q1 : sf_wr g 1 p 1 q n = 0 → Q (some (iq_i 1)) (iq_uz g 0 0 0) (iq_rz l 5 (iq_cz (l 5) (l 5) p q n))) (q0 : ¬ sf_wr g 1 p 1 q n = 0 → Q (some (iq_i 0)) (iq_uz g 0 0 (sf_wr g 1 p 1 q n)) l) : iq_P N xs 49 12 [some (iq_r 0), some (iq_i x), some (iq_i p), some (iq_i y), some (iq_i q), some (iq_i n), some (iq_r 4), none] [iq_r 4] g l Q := by
  obtain ⟨a1, a2, a3, a4⟩ := sf_T1 hT
  obtain ⟨b1, b2, b3, b4⟩ := sf_T1 hT
  unfold sf_wr at q1 q0
  have no1 : ¬ (0 ≤ p ∧ 0 ≤ q ∧ 0 ≤ n) → iq_P N xs 28 0 [some (iq_r 0), some (iq_i 1)] [] g l (fun r g1 l2 => ∃ z3, r = some (iq_i z3) ∧ ((z3 = 0 ∨ z3 = 1) ∧ Q (some (iq_i z3)) g1 l2)) := fun c => by
    rw [if_neg (fun z => c z.2)] at q0
    exact sp28 ⟨_, rfl, .inl rfl, q0 (by omega)⟩
  refine B49_q12_4_4 _ _ _ _ _ _ _ ⟨by omega, fun c => no1 (by omega), fun c1 => ⟨by omega, fun c => no1 (by omega), fun c2 => ⟨by omega, fun c3 => ?_, fun c => no1 (by omega)⟩⟩⟩
  rw [if_pos ⟨by omega, c1, c2, c3⟩] at q1 q0
  refine B35_4 _ _ ⟨by omega, fun d => ⟨_, rfl, by omega, fun h => by omega, fun _ => B35_4 _ _ ⟨by omega, fun e => ⟨_, rfl, by omega, fun _ => ⟨by omega, fun f => ?_, fun f => sp28 ⟨_, rfl, .inl rfl, ?_⟩⟩, fun h => by omega⟩, fun e => ⟨_, rfl, by omega, fun h => by omega, fun _ => sp28 ⟨_, rfl, .inl rfl, ?_⟩⟩⟩⟩, fun d => ⟨_, rfl, by omega, fun _ => sp28 ⟨_, rfl, .inl rfl, ?_⟩, fun h => by omega⟩⟩
  · rw [if_neg (by omega), if_pos (by omega)] at q1 q0
    refine sp48_4 hp hn (by omega) (fun u => ⟨_, rfl, by omega, fun h => by omega, fun _ => sp48_4 hq hn (by omega) (fun w => ⟨_, rfl, by omega, fun _ => ⟨by omega, B49_h133_4_4 _ _ _ _ _ _ _ (sp30 ⟨_, rfl, .inr rfl, ?_⟩)⟩, fun h => by omega⟩) (fun w => ⟨_, rfl, by omega, fun h => by omega, fun _ => sp28 ⟨_, rfl, .inl rfl, ?_⟩⟩)⟩) (fun u => ⟨_, rfl, by omega, fun _ => sp28 ⟨_, rfl, .inl rfl, ?_⟩, fun h => by omega⟩)
    · rw [if_pos (by omega)] at q1; exact q1 rfl
    · rw [if_neg (by omega)] at q0; exact q0 (by omega)
    · rw [if_neg (by omega)] at q0; exact q0 (by omega)
  · rw [if_neg (by omega), if_neg (by omega)] at q0; exact q0 (by omega)
  · rw [if_pos (by omega)] at q0; exact q0 (by omega)
  · rw [if_pos (by omega)] at q0; exact q0 (by omega)
theorem pour_4_6 {N : Nat} {xs : Nat → Int32} {Q : iq_T} {g : iq_I} {l : iq_J} {x y p q n : Int} (hT : iq_TR g l) (hp : -2147483648 ≤ p ∧ p ≤ 2147483647) (hq : -2147483648 ≤ q ∧ q ≤ 2147483647) (hn : -2147483648 ≤ n ∧ n ≤ 2147483647) (q1 : sf_wr g 1 p 2 q n = 0 → Q (some (iq_i 1)) (iq_uz g 0 0 0) (iq_rz l 7 (iq_cz (l 5) (l 7) p q n))) (q0 : ¬ sf_wr g 1 p 2 q n = 0 → Q (some (iq_i 0)) (iq_uz g 0 0 (sf_wr g 1 p 2 q n)) l) : iq_P N xs 49 12 [some (iq_r 0), some (iq_i x), some (iq_i p), some (iq_i y), some (iq_i q), some (iq_i n), some (iq_r 4), none] [iq_r 6] g l Q := by
  obtain ⟨a1, a2, a3, a4⟩ := sf_T1 hT
  obtain ⟨b1, b2, b3, b4⟩ := sf_T2 hT
  unfold sf_wr at q1 q0
  have no1 : ¬ (0 ≤ p ∧ 0 ≤ q ∧ 0 ≤ n) → iq_P N xs 28 0 [some (iq_r 0), some (iq_i 1)] [] g l (fun r g1 l2 => ∃ z3, r = some (iq_i z3) ∧ ((z3 = 0 ∨ z3 = 1) ∧ Q (some (iq_i z3)) g1 l2)) := fun c => by
    rw [if_neg (fun z => c z.2)] at q0
    exact sp28 ⟨_, rfl, .inl rfl, q0 (by omega)⟩
  refine B49_q12_6_4 _ _ _ _ _ _ _ ⟨by omega, fun c => no1 (by omega), fun c1 => ⟨by omega, fun c => no1 (by omega), fun c2 => ⟨by omega, fun c3 => ?_, fun c => no1 (by omega)⟩⟩⟩
  rw [if_pos ⟨by omega, c1, c2, c3⟩] at q1 q0
  refine B35_4 _ _ ⟨by omega, fun d => ⟨_, rfl, by omega, fun h => by omega, fun _ => B35_6 _ _ ⟨by omega, fun e => ⟨_, rfl, by omega, fun _ => ⟨by omega, fun f => ?_, fun f => sp28 ⟨_, rfl, .inl rfl, ?_⟩⟩, fun h => by omega⟩, fun e => ⟨_, rfl, by omega, fun h => by omega, fun _ => sp28 ⟨_, rfl, .inl rfl, ?_⟩⟩⟩⟩, fun d => ⟨_, rfl, by omega, fun _ => sp28 ⟨_, rfl, .inl rfl, ?_⟩, fun h => by omega⟩⟩
  · rw [if_neg (by omega), if_pos (by omega)] at q1 q0
    refine sp48_4 hp hn (by omega) (fun u => ⟨_, rfl, by omega, fun h => by omega, fun _ => sp48_6 hq hn (by omega) (fun w => ⟨_, rfl, by omega, fun _ => ⟨by omega, B49_h133_4_6 _ _ _ _ _ _ _ (sp30 ⟨_, rfl, .inr rfl, ?_⟩)⟩, fun h => by omega⟩) (fun w => ⟨_, rfl, by omega, fun h => by omega, fun _ => sp28 ⟨_, rfl, .inl rfl, ?_⟩⟩)⟩) (fun u => ⟨_, rfl, by omega, fun _ => sp28 ⟨_, rfl, .inl rfl, ?_⟩, fun h => by omega⟩)
    · rw [if_pos (by omega)] at q1; exact q1 rfl
    · rw [if_neg (by omega)] at q0; exact q0 (by omega)
    · rw [if_neg (by omega)] at q0; exact q0 (by omega)
  · rw [if_neg (by omega), if_neg (by omega)] at q0; exact q0 (by omega)
  · rw [if_pos (by omega)] at q0; exact q0 (by omega)
  · rw [if_pos (by omega)] at q0; exact q0 (by omega)
theorem pour_4_8 {N : Nat} {xs : Nat → Int32} {Q : iq_T} {g : iq_I} {l : iq_J} {x y p q n : Int} (hT : iq_TR g l) (hp : -2147483648 ≤ p ∧ p ≤ 2147483647) (hq : -2147483648 ≤ q ∧ q ≤ 2147483647) (hn : -2147483648 ≤ n ∧ n ≤ 2147483647) (q1 : sf_wr g 1 p 3 q n = 0 → Q (some (iq_i 1)) (iq_uz g 0 0 0) (iq_rz l 9 (iq_cz (l 5) (l 9) p q n))) (q0 : ¬ sf_wr g 1 p 3 q n = 0 → Q (some (iq_i 0)) (iq_uz g 0 0 (sf_wr g 1 p 3 q n)) l) : iq_P N xs 49 12 [some (iq_r 0), some (iq_i x), some (iq_i p), some (iq_i y), some (iq_i q), some (iq_i n), some (iq_r 4), none] [iq_r 8] g l Q := by
  obtain ⟨a1, a2, a3, a4⟩ := sf_T1 hT
  obtain ⟨b1, b2, b3, b4⟩ := sf_T3 hT
  unfold sf_wr at q1 q0
  have no1 : ¬ (0 ≤ p ∧ 0 ≤ q ∧ 0 ≤ n) → iq_P N xs 28 0 [some (iq_r 0), some (iq_i 1)] [] g l (fun r g1 l2 => ∃ z3, r = some (iq_i z3) ∧ ((z3 = 0 ∨ z3 = 1) ∧ Q (some (iq_i z3)) g1 l2)) := fun c => by
    rw [if_neg (fun z => c z.2)] at q0
    exact sp28 ⟨_, rfl, .inl rfl, q0 (by omega)⟩
  refine B49_q12_8_4 _ _ _ _ _ _ _ ⟨by omega, fun c => no1 (by omega), fun c1 => ⟨by omega, fun c => no1 (by omega), fun c2 => ⟨by omega, fun c3 => ?_, fun c => no1 (by omega)⟩⟩⟩
  rw [if_pos ⟨by omega, c1, c2, c3⟩] at q1 q0
  refine B35_4 _ _ ⟨by omega, fun d => ⟨_, rfl, by omega, fun h => by omega, fun _ => B35_8 _ _ ⟨by omega, fun e => ⟨_, rfl, by omega, fun _ => ⟨by omega, fun f => ?_, fun f => sp28 ⟨_, rfl, .inl rfl, ?_⟩⟩, fun h => by omega⟩, fun e => ⟨_, rfl, by omega, fun h => by omega, fun _ => sp28 ⟨_, rfl, .inl rfl, ?_⟩⟩⟩⟩, fun d => ⟨_, rfl, by omega, fun _ => sp28 ⟨_, rfl, .inl rfl, ?_⟩, fun h => by omega⟩⟩
  · rw [if_neg (by omega), if_pos (by omega)] at q1 q0
    refine sp48_4 hp hn (by omega) (fun u => ⟨_, rfl, by omega, fun h => by omega, fun _ => sp48_8 hq hn (by omega) (fun w => ⟨_, rfl, by omega, fun _ => ⟨by omega, B49_h133_4_8 _ _ _ _ _ _ _ (sp30 ⟨_, rfl, .inr rfl, ?_⟩)⟩, fun h => by omega⟩) (fun w => ⟨_, rfl, by omega, fun h => by omega, fun _ => sp28 ⟨_, rfl, .inl rfl, ?_⟩⟩)⟩) (fun u => ⟨_, rfl, by omega, fun _ => sp28 ⟨_, rfl, .inl rfl, ?_⟩, fun h => by omega⟩)
    · rw [if_pos (by omega)] at q1; exact q1 rfl
    · rw [if_neg (by omega)] at q0; exact q0 (by omega)
    · rw [if_neg (by omega)] at q0; exact q0 (by omega)
  · rw [if_neg (by omega), if_neg (by omega)] at q0; exact q0 (by omega)
  · rw [if_pos (by omega)] at q0; exact q0 (by omega)
  · rw [if_pos (by omega)] at q0; exact q0 (by omega)
theorem pour_6_2 {N : Nat} {xs : Nat → Int32} {Q : iq_T} {g : iq_I} {l : iq_J} {x y p q n : Int} (hT : iq_TR g l) (hp : -2147483648 ≤ p ∧ p ≤ 2147483647) (hq : -2147483648 ≤ q ∧ q ≤ 2147483647) (hn : -2147483648 ≤ n ∧ n ≤ 2147483647) (q1 : sf_wr g 2 p 0 q n = 0 → Q (some (iq_i 1)) (iq_uz g 0 0 0) (iq_rz l 3 (iq_cz (l 7) (l 3) p q n))) (q0 : ¬ sf_wr g 2 p 0 q n = 0 → Q (some (iq_i 0)) (iq_uz g 0 0 (sf_wr g 2 p 0 q n)) l) : iq_P N xs 49 12 [some (iq_r 0), some (iq_i x), some (iq_i p), some (iq_i y), some (iq_i q), some (iq_i n), some (iq_r 6), none] [iq_r 2] g l Q := by
  obtain ⟨a1, a2, a3, a4⟩ := sf_T2 hT
  obtain ⟨b1, b2, b3, b4⟩ := sf_T0 hT
  unfold sf_wr at q1 q0
  have no1 : ¬ (0 ≤ p ∧ 0 ≤ q ∧ 0 ≤ n) → iq_P N xs 28 0 [some (iq_r 0), some (iq_i 1)] [] g l (fun r g1 l2 => ∃ z3, r = some (iq_i z3) ∧ ((z3 = 0 ∨ z3 = 1) ∧ Q (some (iq_i z3)) g1 l2)) := fun c => by
    rw [if_neg (fun z => c z.2)] at q0
    exact sp28 ⟨_, rfl, .inl rfl, q0 (by omega)⟩
  refine B49_q12_2_6 _ _ _ _ _ _ _ ⟨by omega, fun c => no1 (by omega), fun c1 => ⟨by omega, fun c => no1 (by omega), fun c2 => ⟨by omega, fun c3 => ?_, fun c => no1 (by omega)⟩⟩⟩
  rw [if_pos ⟨by omega, c1, c2, c3⟩] at q1 q0
  refine B35_6 _ _ ⟨by omega, fun d => ⟨_, rfl, by omega, fun h => by omega, fun _ => B35_2 _ _ ⟨by omega, fun e => ⟨_, rfl, by omega, fun _ => ⟨by omega, fun f => ?_, fun f => sp28 ⟨_, rfl, .inl rfl, ?_⟩⟩, fun h => by omega⟩, fun e => ⟨_, rfl, by omega, fun h => by omega, fun _ => sp28 ⟨_, rfl, .inl rfl, ?_⟩⟩⟩⟩, fun d => ⟨_, rfl, by omega, fun _ => sp28 ⟨_, rfl, .inl rfl, ?_⟩, fun h => by omega⟩⟩
  · rw [if_neg (by omega), if_pos (by omega)] at q1 q0
    refine sp48_6 hp hn (by omega) (fun u => ⟨_, rfl, by omega, fun h => by omega, fun _ => sp48_2 hq hn (by omega) (fun w => ⟨_, rfl, by omega, fun _ => ⟨by omega, B49_h133_6_2 _ _ _ _ _ _ _ (sp30 ⟨_, rfl, .inr rfl, ?_⟩)⟩, fun h => by omega⟩) (fun w => ⟨_, rfl, by omega, fun h => by omega, fun _ => sp28 ⟨_, rfl, .inl rfl, ?_⟩⟩)⟩) (fun u => ⟨_, rfl, by omega, fun _ => sp28 ⟨_, rfl, .inl rfl, ?_⟩, fun h => by omega⟩)
    · rw [if_pos (by omega)] at q1; exact q1 rfl
    · rw [if_neg (by omega)] at q0; exact q0 (by omega)
    · rw [if_neg (by omega)] at q0; exact q0 (by omega)
  · rw [if_neg (by omega), if_neg (by omega)] at q0; exact q0 (by omega)
  · rw [if_pos (by omega)] at q0; exact q0 (by omega)
  · rw [if_pos (by omega)] at q0; exact q0 (by omega)
theorem pour_6_4 {N : Nat} {xs : Nat → Int32} {Q : iq_T} {g : iq_I} {l : iq_J} {x y p q n : Int} (hT : iq_TR g l) (hp : -2147483648 ≤ p ∧ p ≤ 2147483647) (hq : -2147483648 ≤ q ∧ q ≤ 2147483647) (hn : -2147483648 ≤ n ∧ n ≤ 2147483647) (q1 : sf_wr g 2 p 1 q n = 0 → Q (some (iq_i 1)) (iq_uz g 0 0 0) (iq_rz l 5 (iq_cz (l 7) (l 5) p q n))) (q0 : ¬ sf_wr g 2 p 1 q n = 0 → Q (some (iq_i 0)) (iq_uz g 0 0 (sf_wr g 2 p 1 q n)) l) : iq_P N xs 49 12 [some (iq_r 0), some (iq_i x), some (iq_i p), some (iq_i y), some (iq_i q), some (iq_i n), some (iq_r 6), none] [iq_r 4] g l Q := by
  obtain ⟨a1, a2, a3, a4⟩ := sf_T2 hT
  obtain ⟨b1, b2, b3, b4⟩ := sf_T1 hT
  unfold sf_wr at q1 q0
  have no1 : ¬ (0 ≤ p ∧ 0 ≤ q ∧ 0 ≤ n) → iq_P N xs 28 0 [some (iq_r 0), some (iq_i 1)] [] g l (fun r g1 l2 => ∃ z3, r = some (iq_i z3) ∧ ((z3 = 0 ∨ z3 = 1) ∧ Q (some (iq_i z3)) g1 l2)) := fun c => by
    rw [if_neg (fun z => c z.2)] at q0
    exact sp28 ⟨_, rfl, .inl rfl, q0 (by omega)⟩
  refine B49_q12_4_6 _ _ _ _ _ _ _ ⟨by omega, fun c => no1 (by omega), fun c1 => ⟨by omega, fun c => no1 (by omega), fun c2 => ⟨by omega, fun c3 => ?_, fun c => no1 (by omega)⟩⟩⟩
  rw [if_pos ⟨by omega, c1, c2, c3⟩] at q1 q0
  refine B35_6 _ _ ⟨by omega, fun d => ⟨_, rfl, by omega, fun h => by omega, fun _ => B35_4 _ _ ⟨by omega, fun e => ⟨_, rfl, by omega, fun _ => ⟨by omega, fun f => ?_, fun f => sp28 ⟨_, rfl, .inl rfl, ?_⟩⟩, fun h => by omega⟩, fun e => ⟨_, rfl, by omega, fun h => by omega, fun _ => sp28 ⟨_, rfl, .inl rfl, ?_⟩⟩⟩⟩, fun d => ⟨_, rfl, by omega, fun _ => sp28 ⟨_, rfl, .inl rfl, ?_⟩, fun h => by omega⟩⟩
  · rw [if_neg (by omega), if_pos (by omega)] at q1 q0
    refine sp48_6 hp hn (by omega) (fun u => ⟨_, rfl, by omega, fun h => by omega, fun _ => sp48_4 hq hn (by omega) (fun w => ⟨_, rfl, by omega, fun _ => ⟨by omega, B49_h133_6_4 _ _ _ _ _ _ _ (sp30 ⟨_, rfl, .inr rfl, ?_⟩)⟩, fun h => by omega⟩) (fun w => ⟨_, rfl, by omega, fun h => by omega, fun _ => sp28 ⟨_, rfl, .inl rfl, ?_⟩⟩)⟩) (fun u => ⟨_, rfl, by omega, fun _ => sp28 ⟨_, rfl, .inl rfl, ?_⟩, fun h => by omega⟩)
    · rw [if_pos (by omega)] at q1; exact q1 rfl
    · rw [if_neg (by omega)] at q0; exact q0 (by omega)
    · rw [if_neg (by omega)] at q0; exact q0 (by omega)
  · rw [if_neg (by omega), if_neg (by omega)] at q0; exact q0 (by omega)
  · rw [if_pos (by omega)] at q0; exact q0 (by omega)
  · rw [if_pos (by omega)] at q0; exact q0 (by omega)
theorem pour_6_6 {N : Nat} {xs : Nat → Int32} {Q : iq_T} {g : iq_I} {l : iq_J} {x y p q n : Int} (hT : iq_TR g l) (hp : -2147483648 ≤ p ∧ p ≤ 2147483647) (hq : -2147483648 ≤ q ∧ q ≤ 2147483647) (hn : -2147483648 ≤ n ∧ n ≤ 2147483647) (q1 : sf_wr g 2 p 2 q n = 0 → Q (some (iq_i 1)) (iq_uz g 0 0 0) (iq_rz l 7 (iq_cz (l 7) (l 7) p q n))) (q0 : ¬ sf_wr g 2 p 2 q n = 0 → Q (some (iq_i 0)) (iq_uz g 0 0 (sf_wr g 2 p 2 q n)) l) : iq_P N xs 49 12 [some (iq_r 0), some (iq_i x), some (iq_i p), some (iq_i y), some (iq_i q), some (iq_i n), some (iq_r 6), none] [iq_r 6] g l Q := by
  obtain ⟨a1, a2, a3, a4⟩ := sf_T2 hT
  obtain ⟨b1, b2, b3, b4⟩ := sf_T2 hT
  unfold sf_wr at q1 q0
  have no1 : ¬ (0 ≤ p ∧ 0 ≤ q ∧ 0 ≤ n) → iq_P N xs 28 0 [some (iq_r 0), some (iq_i 1)] [] g l (fun r g1 l2 => ∃ z3, r = some (iq_i z3) ∧ ((z3 = 0 ∨ z3 = 1) ∧ Q (some (iq_i z3)) g1 l2)) := fun c => by
    rw [if_neg (fun z => c z.2)] at q0
    exact sp28 ⟨_, rfl, .inl rfl, q0 (by omega)⟩
  refine B49_q12_6_6 _ _ _ _ _ _ _ ⟨by omega, fun c => no1 (by omega), fun c1 => ⟨by omega, fun c => no1 (by omega), fun c2 => ⟨by omega, fun c3 => ?_, fun c => no1 (by omega)⟩⟩⟩
  rw [if_pos ⟨by omega, c1, c2, c3⟩] at q1 q0
  refine B35_6 _ _ ⟨by omega, fun d => ⟨_, rfl, by omega, fun h => by omega, fun _ => B35_6 _ _ ⟨by omega, fun e => ⟨_, rfl, by omega, fun _ => ⟨by omega, fun f => ?_, fun f => sp28 ⟨_, rfl, .inl rfl, ?_⟩⟩, fun h => by omega⟩, fun e => ⟨_, rfl, by omega, fun h => by omega, fun _ => sp28 ⟨_, rfl, .inl rfl, ?_⟩⟩⟩⟩, fun d => ⟨_, rfl, by omega, fun _ => sp28 ⟨_, rfl, .inl rfl, ?_⟩, fun h => by omega⟩⟩
  · rw [if_neg (by omega), if_pos (by omega)] at q1 q0
    refine sp48_6 hp hn (by omega) (fun u => ⟨_, rfl, by omega, fun h => by omega, fun _ => sp48_6 hq hn (by omega) (fun w => ⟨_, rfl, by omega, fun _ => ⟨by omega, B49_h133_6_6 _ _ _ _ _ _ _ (sp30 ⟨_, rfl, .inr rfl, ?_⟩)⟩, fun h => by omega⟩) (fun w => ⟨_, rfl, by omega, fun h => by omega, fun _ => sp28 ⟨_, rfl, .inl rfl, ?_⟩⟩)⟩) (fun u => ⟨_, rfl, by omega, fun _ => sp28 ⟨_, rfl, .inl rfl, ?_⟩, fun h => by omega⟩)
    · rw [if_pos (by omega)] at q1; exact q1 rfl
    · rw [if_neg (by omega)] at q0; exact q0 (by omega)
    · rw [if_neg (by omega)] at q0; exact q0 (by omega)
  · rw [if_neg (by omega), if_neg (by omega)] at q0; exact q0 (by omega)
  · rw [if_pos (by omega)] at q0; exact q0 (by omega)
  · rw [if_pos (by omega)] at q0; exact q0 (by omega)
theorem pour_6_8 {N : Nat} {xs : Nat → Int32} {Q : iq_T} {g : iq_I} {l : iq_J} {x y p q n : Int} (hT : iq_TR g l) (hp : -2147483648 ≤ p ∧ p ≤ 2147483647) (hq : -2147483648 ≤ q ∧ q ≤ 2147483647) (hn : -2147483648 ≤ n ∧ n ≤ 2147483647) (q1 : sf_wr g 2 p 3 q n = 0 → Q (some (iq_i 1)) (iq_uz g 0 0 0) (iq_rz l 9 (iq_cz (l 7) (l 9) p q n))) (q0 : ¬ sf_wr g 2 p 3 q n = 0 → Q (some (iq_i 0)) (iq_uz g 0 0 (sf_wr g 2 p 3 q n)) l) : iq_P N xs 49 12 [some (iq_r 0), some (iq_i x), some (iq_i p), some (iq_i y), some (iq_i q), some (iq_i n), some (iq_r 6), none] [iq_r 8] g l Q := by
  obtain ⟨a1, a2, a3, a4⟩ := sf_T2 hT
  obtain ⟨b1, b2, b3, b4⟩ := sf_T3 hT
  unfold sf_wr at q1 q0
  have no1 : ¬ (0 ≤ p ∧ 0 ≤ q ∧ 0 ≤ n) → iq_P N xs 28 0 [some (iq_r 0), some (iq_i 1)] [] g l (fun r g1 l2 => ∃ z3, r = some (iq_i z3) ∧ ((z3 = 0 ∨ z3 = 1) ∧ Q (some (iq_i z3)) g1 l2)) := fun c => by
    rw [if_neg (fun z => c z.2)] at q0
    exact sp28 ⟨_, rfl, .inl rfl, q0 (by omega)⟩
  refine B49_q12_8_6 _ _ _ _ _ _ _ ⟨by omega, fun c => no1 (by omega), fun c1 => ⟨by omega, fun c => no1 (by omega), fun c2 => ⟨by omega, fun c3 => ?_, fun c => no1 (by omega)⟩⟩⟩
  rw [if_pos ⟨by omega, c1, c2, c3⟩] at q1 q0
  refine B35_6 _ _ ⟨by omega, fun d => ⟨_, rfl, by omega, fun h => by omega, fun _ => B35_8 _ _ ⟨by omega, fun e => ⟨_, rfl, by omega, fun _ => ⟨by omega, fun f => ?_, fun f => sp28 ⟨_, rfl, .inl rfl, ?_⟩⟩, fun h => by omega⟩, fun e => ⟨_, rfl, by omega, fun h => by omega, fun _ => sp28 ⟨_, rfl, .inl rfl, ?_⟩⟩⟩⟩, fun d => ⟨_, rfl, by omega, fun _ => sp28 ⟨_, rfl, .inl rfl, ?_⟩, fun h => by omega⟩⟩
  · rw [if_neg (by omega), if_pos (by omega)] at q1 q0
    refine sp48_6 hp hn (by omega) (fun u => ⟨_, rfl, by omega, fun h => by omega, fun _ => sp48_8 hq hn (by omega) (fun w => ⟨_, rfl, by omega, fun _ => ⟨by omega, B49_h133_6_8 _ _ _ _ _ _ _ (sp30 ⟨_, rfl, .inr rfl, ?_⟩)⟩, fun h => by omega⟩) (fun w => ⟨_, rfl, by omega, fun h => by omega, fun _ => sp28 ⟨_, rfl, .inl rfl, ?_⟩⟩)⟩) (fun u => ⟨_, rfl, by omega, fun _ => sp28 ⟨_, rfl, .inl rfl, ?_⟩, fun h => by omega⟩)
    · rw [if_pos (by omega)] at q1; exact q1 rfl
    · rw [if_neg (by omega)] at q0; exact q0 (by omega)
    · rw [if_neg (by omega)] at q0; exact q0 (by omega)
  · rw [if_neg (by omega), if_neg (by omega)] at q0; exact q0 (by omega)
  · rw [if_pos (by omega)] at q0; exact q0 (by omega)
  · rw [if_pos (by omega)] at q0; exact q0 (by omega)
theorem pour_8_2 {N : Nat} {xs : Nat → Int32} {Q : iq_T} {g : iq_I} {l : iq_J} {x y p q n : Int} (hT : iq_TR g l) (hp : -2147483648 ≤ p ∧ p ≤ 2147483647) (hq : -2147483648 ≤ q ∧ q ≤ 2147483647) (hn : -2147483648 ≤ n ∧ n ≤ 2147483647) (q1 : sf_wr g 3 p 0 q n = 0 → Q (some (iq_i 1)) (iq_uz g 0 0 0) (iq_rz l 3 (iq_cz (l 9) (l 3) p q n))) (q0 : ¬ sf_wr g 3 p 0 q n = 0 → Q (some (iq_i 0)) (iq_uz g 0 0 (sf_wr g 3 p 0 q n)) l) : iq_P N xs 49 12 [some (iq_r 0), some (iq_i x), some (iq_i p), some (iq_i y), some (iq_i q), some (iq_i n), some (iq_r 8), none] [iq_r 2] g l Q := by
  obtain ⟨a1, a2, a3, a4⟩ := sf_T3 hT
  obtain ⟨b1, b2, b3, b4⟩ := sf_T0 hT
  unfold sf_wr at q1 q0
  have no1 : ¬ (0 ≤ p ∧ 0 ≤ q ∧ 0 ≤ n) → iq_P N xs 28 0 [some (iq_r 0), some (iq_i 1)] [] g l (fun r g1 l2 => ∃ z3, r = some (iq_i z3) ∧ ((z3 = 0 ∨ z3 = 1) ∧ Q (some (iq_i z3)) g1 l2)) := fun c => by
    rw [if_neg (fun z => c z.2)] at q0
    exact sp28 ⟨_, rfl, .inl rfl, q0 (by omega)⟩
  refine B49_q12_2_8 _ _ _ _ _ _ _ ⟨by omega, fun c => no1 (by omega), fun c1 => ⟨by omega, fun c => no1 (by omega), fun c2 => ⟨by omega, fun c3 => ?_, fun c => no1 (by omega)⟩⟩⟩
  rw [if_pos ⟨by omega, c1, c2, c3⟩] at q1 q0
  refine B35_8 _ _ ⟨by omega, fun d => ⟨_, rfl, by omega, fun h => by omega, fun _ => B35_2 _ _ ⟨by omega, fun e => ⟨_, rfl, by omega, fun _ => ⟨by omega, fun f => ?_, fun f => sp28 ⟨_, rfl, .inl rfl, ?_⟩⟩, fun h => by omega⟩, fun e => ⟨_, rfl, by omega, fun h => by omega, fun _ => sp28 ⟨_, rfl, .inl rfl, ?_⟩⟩⟩⟩, fun d => ⟨_, rfl, by omega, fun _ => sp28 ⟨_, rfl, .inl rfl, ?_⟩, fun h => by omega⟩⟩
  · rw [if_neg (by omega), if_pos (by omega)] at q1 q0
    refine sp48_8 hp hn (by omega) (fun u => ⟨_, rfl, by omega, fun h => by omega, fun _ => sp48_2 hq hn (by omega) (fun w => ⟨_, rfl, by omega, fun _ => ⟨by omega, B49_h133_8_2 _ _ _ _ _ _ _ (sp30 ⟨_, rfl, .inr rfl, ?_⟩)⟩, fun h => by omega⟩) (fun w => ⟨_, rfl, by omega, fun h => by omega, fun _ => sp28 ⟨_, rfl, .inl rfl, ?_⟩⟩)⟩) (fun u => ⟨_, rfl, by omega, fun _ => sp28 ⟨_, rfl, .inl rfl, ?_⟩, fun h => by omega⟩)
    · rw [if_pos (by omega)] at q1; exact q1 rfl
    · rw [if_neg (by omega)] at q0; exact q0 (by omega)
    · rw [if_neg (by omega)] at q0; exact q0 (by omega)
  · rw [if_neg (by omega), if_neg (by omega)] at q0; exact q0 (by omega)
  · rw [if_pos (by omega)] at q0; exact q0 (by omega)
  · rw [if_pos (by omega)] at q0; exact q0 (by omega)
theorem pour_8_4 {N : Nat} {xs : Nat → Int32} {Q : iq_T} {g : iq_I} {l : iq_J} {x y p q n : Int} (hT : iq_TR g l) (hp : -2147483648 ≤ p ∧ p ≤ 2147483647) (hq : -2147483648 ≤ q ∧ q ≤ 2147483647) (hn : -2147483648 ≤ n ∧ n ≤ 2147483647) (q1 : sf_wr g 3 p 1 q n = 0 → Q (some (iq_i 1)) (iq_uz g 0 0 0) (iq_rz l 5 (iq_cz (l 9) (l 5) p q n))) (q0 : ¬ sf_wr g 3 p 1 q n = 0 → Q (some (iq_i 0)) (iq_uz g 0 0 (sf_wr g 3 p 1 q n)) l) : iq_P N xs 49 12 [some (iq_r 0), some (iq_i x), some (iq_i p), some (iq_i y), some (iq_i q), some (iq_i n), some (iq_r 8), none] [iq_r 4] g l Q := by
  obtain ⟨a1, a2, a3, a4⟩ := sf_T3 hT
  obtain ⟨b1, b2, b3, b4⟩ := sf_T1 hT
  unfold sf_wr at q1 q0
  have no1 : ¬ (0 ≤ p ∧ 0 ≤ q ∧ 0 ≤ n) → iq_P N xs 28 0 [some (iq_r 0), some (iq_i 1)] [] g l (fun r g1 l2 => ∃ z3, r = some (iq_i z3) ∧ ((z3 = 0 ∨ z3 = 1) ∧ Q (some (iq_i z3)) g1 l2)) := fun c => by
    rw [if_neg (fun z => c z.2)] at q0
    exact sp28 ⟨_, rfl, .inl rfl, q0 (by omega)⟩
  refine B49_q12_4_8 _ _ _ _ _ _ _ ⟨by omega, fun c => no1 (by omega), fun c1 => ⟨by omega, fun c => no1 (by omega), fun c2 => ⟨by omega, fun c3 => ?_, fun c => no1 (by omega)⟩⟩⟩
  rw [if_pos ⟨by omega, c1, c2, c3⟩] at q1 q0
  refine B35_8 _ _ ⟨by omega, fun d => ⟨_, rfl, by omega, fun h => by omega, fun _ => B35_4 _ _ ⟨by omega, fun e => ⟨_, rfl, by omega, fun _ => ⟨by omega, fun f => ?_, fun f => sp28 ⟨_, rfl, .inl rfl, ?_⟩⟩, fun h => by omega⟩, fun e => ⟨_, rfl, by omega, fun h => by omega, fun _ => sp28 ⟨_, rfl, .inl rfl, ?_⟩⟩⟩⟩, fun d => ⟨_, rfl, by omega, fun _ => sp28 ⟨_, rfl, .inl rfl, ?_⟩, fun h => by omega⟩⟩
  · rw [if_neg (by omega), if_pos (by omega)] at q1 q0
    refine sp48_8 hp hn (by omega) (fun u => ⟨_, rfl, by omega, fun h => by omega, fun _ => sp48_4 hq hn (by omega) (fun w => ⟨_, rfl, by omega, fun _ => ⟨by omega, B49_h133_8_4 _ _ _ _ _ _ _ (sp30 ⟨_, rfl, .inr rfl, ?_⟩)⟩, fun h => by omega⟩) (fun w => ⟨_, rfl, by omega, fun h => by omega, fun _ => sp28 ⟨_, rfl, .inl rfl, ?_⟩⟩)⟩) (fun u => ⟨_, rfl, by omega, fun _ => sp28 ⟨_, rfl, .inl rfl, ?_⟩, fun h => by omega⟩)
    · rw [if_pos (by omega)] at q1; exact q1 rfl
    · rw [if_neg (by omega)] at q0; exact q0 (by omega)
    · rw [if_neg (by omega)] at q0; exact q0 (by omega)
  · rw [if_neg (by omega), if_neg (by omega)] at q0; exact q0 (by omega)
  · rw [if_pos (by omega)] at q0; exact q0 (by omega)
  · rw [if_pos (by omega)] at q0; exact q0 (by omega)
theorem pour_8_6 {N : Nat} {xs : Nat → Int32} {Q : iq_T} {g : iq_I} {l : iq_J} {x y p q n : Int} (hT : iq_TR g l) (hp : -2147483648 ≤ p ∧ p ≤ 2147483647) (hq : -2147483648 ≤ q ∧ q ≤ 2147483647) (hn : -2147483648 ≤ n ∧ n ≤ 2147483647) (q1 : sf_wr g 3 p 2 q n = 0 → Q (some (iq_i 1)) (iq_uz g 0 0 0) (iq_rz l 7 (iq_cz (l 9) (l 7) p q n))) (q0 : ¬ sf_wr g 3 p 2 q n = 0 → Q (some (iq_i 0)) (iq_uz g 0 0 (sf_wr g 3 p 2 q n)) l) : iq_P N xs 49 12 [some (iq_r 0), some (iq_i x), some (iq_i p), some (iq_i y), some (iq_i q), some (iq_i n), some (iq_r 8), none] [iq_r 6] g l Q := by
  obtain ⟨a1, a2, a3, a4⟩ := sf_T3 hT
  obtain ⟨b1, b2, b3, b4⟩ := sf_T2 hT
  unfold sf_wr at q1 q0
  have no1 : ¬ (0 ≤ p ∧ 0 ≤ q ∧ 0 ≤ n) → iq_P N xs 28 0 [some (iq_r 0), some (iq_i 1)] [] g l (fun r g1 l2 => ∃ z3, r = some (iq_i z3) ∧ ((z3 = 0 ∨ z3 = 1) ∧ Q (some (iq_i z3)) g1 l2)) := fun c => by
    rw [if_neg (fun z => c z.2)] at q0
    exact sp28 ⟨_, rfl, .inl rfl, q0 (by omega)⟩
  refine B49_q12_6_8 _ _ _ _ _ _ _ ⟨by omega, fun c => no1 (by omega), fun c1 => ⟨by omega, fun c => no1 (by omega), fun c2 => ⟨by omega, fun c3 => ?_, fun c => no1 (by omega)⟩⟩⟩
  rw [if_pos ⟨by omega, c1, c2, c3⟩] at q1 q0
  refine B35_8 _ _ ⟨by omega, fun d => ⟨_, rfl, by omega, fun h => by omega, fun _ => B35_6 _ _ ⟨by omega, fun e => ⟨_, rfl, by omega, fun _ => ⟨by omega, fun f => ?_, fun f => sp28 ⟨_, rfl, .inl rfl, ?_⟩⟩, fun h => by omega⟩, fun e => ⟨_, rfl, by omega, fun h => by omega, fun _ => sp28 ⟨_, rfl, .inl rfl, ?_⟩⟩⟩⟩, fun d => ⟨_, rfl, by omega, fun _ => sp28 ⟨_, rfl, .inl rfl, ?_⟩, fun h => by omega⟩⟩
  · rw [if_neg (by omega), if_pos (by omega)] at q1 q0
    refine sp48_8 hp hn (by omega) (fun u => ⟨_, rfl, by omega, fun h => by omega, fun _ => sp48_6 hq hn (by omega) (fun w => ⟨_, rfl, by omega, fun _ => ⟨by omega, B49_h133_8_6 _ _ _ _ _ _ _ (sp30 ⟨_, rfl, .inr rfl, ?_⟩)⟩, fun h => by omega⟩) (fun w => ⟨_, rfl, by omega, fun h => by omega, fun _ => sp28 ⟨_, rfl, .inl rfl, ?_⟩⟩)⟩) (fun u => ⟨_, rfl, by omega, fun _ => sp28 ⟨_, rfl, .inl rfl, ?_⟩, fun h => by omega⟩)
    · rw [if_pos (by omega)] at q1; exact q1 rfl
    · rw [if_neg (by omega)] at q0; exact q0 (by omega)
    · rw [if_neg (by omega)] at q0; exact q0 (by omega)
  · rw [if_neg (by omega), if_neg (by omega)] at q0; exact q0 (by omega)
  · rw [if_pos (by omega)] at q0; exact q0 (by omega)
  · rw [if_pos (by omega)] at q0; exact q0 (by omega)
theorem pour_8_8 {N : Nat} {xs : Nat → Int32} {Q : iq_T} {g : iq_I} {l : iq_J} {x y p q n : Int} (hT : iq_TR g l) (hp : -2147483648 ≤ p ∧ p ≤ 2147483647) (hq : -2147483648 ≤ q ∧ q ≤ 2147483647) (hn : -2147483648 ≤ n ∧ n ≤ 2147483647) (q1 : sf_wr g 3 p 3 q n = 0 → Q (some (iq_i 1)) (iq_uz g 0 0 0) (iq_rz l 9 (iq_cz (l 9) (l 9) p q n))) (q0 : ¬ sf_wr g 3 p 3 q n = 0 → Q (some (iq_i 0)) (iq_uz g 0 0 (sf_wr g 3 p 3 q n)) l) : iq_P N xs 49 12 [some (iq_r 0), some (iq_i x), some (iq_i p), some (iq_i y), some (iq_i q), some (iq_i n), some (iq_r 8), none] [iq_r 8] g l Q := by
  obtain ⟨a1, a2, a3, a4⟩ := sf_T3 hT
  obtain ⟨b1, b2, b3, b4⟩ := sf_T3 hT
  unfold sf_wr at q1 q0
  have no1 : ¬ (0 ≤ p ∧ 0 ≤ q ∧ 0 ≤ n) → iq_P N xs 28 0 [some (iq_r 0), some (iq_i 1)] [] g l (fun r g1 l2 => ∃ z3, r = some (iq_i z3) ∧ ((z3 = 0 ∨ z3 = 1) ∧ Q (some (iq_i z3)) g1 l2)) := fun c => by
    rw [if_neg (fun z => c z.2)] at q0
    exact sp28 ⟨_, rfl, .inl rfl, q0 (by omega)⟩
  refine B49_q12_8_8 _ _ _ _ _ _ _ ⟨by omega, fun c => no1 (by omega), fun c1 => ⟨by omega, fun c => no1 (by omega), fun c2 => ⟨by omega, fun c3 => ?_, fun c => no1 (by omega)⟩⟩⟩
  rw [if_pos ⟨by omega, c1, c2, c3⟩] at q1 q0
  refine B35_8 _ _ ⟨by omega, fun d => ⟨_, rfl, by omega, fun h => by omega, fun _ => B35_8 _ _ ⟨by omega, fun e => ⟨_, rfl, by omega, fun _ => ⟨by omega, fun f => ?_, fun f => sp28 ⟨_, rfl, .inl rfl, ?_⟩⟩, fun h => by omega⟩, fun e => ⟨_, rfl, by omega, fun h => by omega, fun _ => sp28 ⟨_, rfl, .inl rfl, ?_⟩⟩⟩⟩, fun d => ⟨_, rfl, by omega, fun _ => sp28 ⟨_, rfl, .inl rfl, ?_⟩, fun h => by omega⟩⟩
  · rw [if_neg (by omega), if_pos (by omega)] at q1 q0
    refine sp48_8 hp hn (by omega) (fun u => ⟨_, rfl, by omega, fun h => by omega, fun _ => sp48_8 hq hn (by omega) (fun w => ⟨_, rfl, by omega, fun _ => ⟨by omega, B49_h133_8_8 _ _ _ _ _ _ _ (sp30 ⟨_, rfl, .inr rfl, ?_⟩)⟩, fun h => by omega⟩) (fun w => ⟨_, rfl, by omega, fun h => by omega, fun _ => sp28 ⟨_, rfl, .inl rfl, ?_⟩⟩)⟩) (fun u => ⟨_, rfl, by omega, fun _ => sp28 ⟨_, rfl, .inl rfl, ?_⟩, fun h => by omega⟩)
    · rw [if_pos (by omega)] at q1; exact q1 rfl
    · rw [if_neg (by omega)] at q0; exact q0 (by omega)
    · rw [if_neg (by omega)] at q0; exact q0 (by omega)
  · rw [if_neg (by omega), if_neg (by omega)] at q0; exact q0 (by omega)
  · rw [if_pos (by omega)] at q0; exact q0 (by omega)
  · rw [if_pos (by omega)] at q0; exact q0 (by omega)
theorem cPour {N : Nat} {xs : Nat → Int32} {Q : iq_T} {g : iq_I} {l : iq_J} {a p b q n : Int} (hT : iq_TR g l) (ha : -2147483648 ≤ a ∧ a ≤ 2147483647) (hp : -2147483648 ≤ p ∧ p ≤ 2147483647) (hb : -2147483648 ≤ b ∧ b ≤ 2147483647) (hq : -2147483648 ≤ q ∧ q ≤ 2147483647) (hn : -2147483648 ≤ n ∧ n ≤ 2147483647) (q1 : sf_wr g a p b q n = 0 → Q (some (iq_i 1)) (iq_uz g 0 0 0) (iq_rz l (3 + 2 * b.toNat) (iq_cz (l (3 + 2 * a.toNat)) (l (3 + 2 * b.toNat)) p q n))) (q0 : ¬ sf_wr g a p b q n = 0 → Q (some (iq_i 0)) (iq_uz g 0 0 (sf_wr g a p b q n)) l) : iq_P N xs 49 0 [some (iq_r 0), some (iq_i a), some (iq_i p), some (iq_i b), some (iq_i q), some (iq_i n), none, none] [] g l Q := by
  have no : ¬ ((0 ≤ a ∧ a < 4) ∧ 0 ≤ b ∧ b < 4) → iq_P N xs 28 0 [some (iq_r 0), some (iq_i 1)] [] g l (fun r g1 l2 => ∃ z3, r = some (iq_i z3) ∧ ((z3 = 0 ∨ z3 = 1) ∧ Q (some (iq_i z3)) g1 l2)) := fun c => by
    have e : sf_wr g a p b q n = 1 := by unfold sf_wr; rw [if_neg (fun z => c z.1)]
    rw [e] at q0
    exact sp28 ⟨_, rfl, .inl rfl, q0 (by omega)⟩
  refine B49_0 _ _ _ _ _ _ _ (sp27 ha (fun c => B49_q5_null _ _ _ _ _ _ _ (sp27 hb (fun d => B49_q12_null_null _ _ _ _ _ _ _ (no (fun z => c z.1))) (fun e => B49_q12_2_null _ _ _ _ _ _ _ (no (fun z => c z.1))) (fun e => B49_q12_4_null _ _ _ _ _ _ _ (no (fun z => c z.1))) (fun e => B49_q12_6_null _ _ _ _ _ _ _ (no (fun z => c z.1))) (fun e => B49_q12_8_null _ _ _ _ _ _ _ (no (fun z => c z.1))))) (fun c => ?_) (fun c => ?_) (fun c => ?_) (fun c => ?_))
  · subst c
    refine B49_q5_2 _ _ _ _ _ _ _ (sp27 hb (fun d => B49_q12_null_2 _ _ _ _ _ _ _ (no (fun z => d z.2))) (fun e => ?_) (fun e => ?_) (fun e => ?_) (fun e => ?_))
    · subst e; exact pour_2_2 hT hp hq hn q1 q0
    · subst e; exact pour_2_4 hT hp hq hn q1 q0
    · subst e; exact pour_2_6 hT hp hq hn q1 q0
    · subst e; exact pour_2_8 hT hp hq hn q1 q0
  · subst c
    refine B49_q5_4 _ _ _ _ _ _ _ (sp27 hb (fun d => B49_q12_null_4 _ _ _ _ _ _ _ (no (fun z => d z.2))) (fun e => ?_) (fun e => ?_) (fun e => ?_) (fun e => ?_))
    · subst e; exact pour_4_2 hT hp hq hn q1 q0
    · subst e; exact pour_4_4 hT hp hq hn q1 q0
    · subst e; exact pour_4_6 hT hp hq hn q1 q0
    · subst e; exact pour_4_8 hT hp hq hn q1 q0
  · subst c
    refine B49_q5_6 _ _ _ _ _ _ _ (sp27 hb (fun d => B49_q12_null_6 _ _ _ _ _ _ _ (no (fun z => d z.2))) (fun e => ?_) (fun e => ?_) (fun e => ?_) (fun e => ?_))
    · subst e; exact pour_6_2 hT hp hq hn q1 q0
    · subst e; exact pour_6_4 hT hp hq hn q1 q0
    · subst e; exact pour_6_6 hT hp hq hn q1 q0
    · subst e; exact pour_6_8 hT hp hq hn q1 q0
  · subst c
    refine B49_q5_8 _ _ _ _ _ _ _ (sp27 hb (fun d => B49_q12_null_8 _ _ _ _ _ _ _ (no (fun z => d z.2))) (fun e => ?_) (fun e => ?_) (fun e => ?_) (fun e => ?_))
    · subst e; exact pour_8_2 hT hp hq hn q1 q0
    · subst e; exact pour_8_4 hT hp hq hn q1 q0
    · subst e; exact pour_8_6 hT hp hq hn q1 q0
    · subst e; exact pour_8_8 hT hp hq hn q1 q0
