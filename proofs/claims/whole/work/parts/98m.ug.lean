/-! scale in the model: the call. -/
theorem sf_i2b255 (x : Int) : iq_and (iq_i2b x) 255 = iq_and x 255 := by
  unfold iq_and iq_i2b
  rw [Int32.ofInt_toInt]
  congr 1
  apply Int32.toBitVec_inj.mp
  rw [Int32.toBitVec_and, Int32.toBitVec_and]
  refine BitVec.eq_of_getLsbD_eq (fun i hi => ?_)
  rw [BitVec.getLsbD_and, BitVec.getLsbD_and]
  by_cases c : i < 8
  · congr 1
    have e : ((Int32.ofInt x).toInt8.toInt32).toBitVec = ((Int32.ofInt x).toBitVec.signExtend 8).signExtend 32 := rfl
    rw [e, BitVec.getLsbD_signExtend, BitVec.getLsbD_signExtend]
    simp [c, hi, show i < 32 by omega]
  · have e : ((Int32.ofInt 255).toBitVec).getLsbD i = false := by
      have : i = 8 ∨ i = 9 ∨ i = 10 ∨ i = 11 ∨ i = 12 ∨ i = 13 ∨ i = 14 ∨ i = 15 ∨ i = 16 ∨ i = 17 ∨ i = 18 ∨ i = 19 ∨ i = 20 ∨ i = 21 ∨ i = 22 ∨ i = 23 ∨ i = 24 ∨ i = 25 ∨ i = 26 ∨ i = 27 ∨ i = 28 ∨ i = 29 ∨ i = 30 ∨ i = 31 := by omega
      rcases this with e | e | e | e | e | e | e | e | e | e | e | e | e | e | e | e | e | e | e | e | e | e | e | e <;> subst e <;> decide
    rw [e]; simp
/-- behind begins: all but the reading; the tape is empty -/
def sf_BK (g g' : iq_I) : Prop := (∀ j, ¬ j = 77 → ¬ j = 83 → g' j = g j) ∧ (∀ k, ¬ (9 ≤ k ∧ k ≤ 14) → ¬ (16 ≤ k ∧ k ≤ 17) → g' 77 k = g 77 k)
theorem sp97_p {N : Nat} {xs : Nat → Int32} {Q : iq_T} {g : iq_I} {l : iq_J} {A : Int → Int} {a v : Int} (ha : 0 ≤ a ∧ a ≤ 900) (hA : ∀ k : Int, 0 ≤ k → k < a → iq_and (g 82 k) 255 = A k) (q : ∀ g' : iq_I, sf_BK g g' → sf_MB g' A a → sf_MT1 g' A a 0 → g' 77 9 = 0 → g' 77 17 = 0 → g' 77 16 = -1 → Q (some (iq_i 1)) g' l) (f : Nat) : ∀ (k : Nat) (G : iq_I), (k : Int) + f = a → (∀ j, ¬ j = 77 → ¬ j = 83 → G j = g j) → (∀ k, ¬ k = 10 → G 77 k = g 77 k) → G 77 10 = a → (∀ i : Int, 0 ≤ i → i < k → iq_and (G 83 i) 255 = A i) → iq_P N xs 97 26 [some (iq_r 77), some (iq_i a), some (iq_i v), some (iq_i k)] [] G l Q := by
  induction f with
  | zero =>
    intro k G hk b1 b2 b3 b4
    refine B97_p26_77 _ _ _ _ _ ⟨by omega, fun _ => ?_, fun h => by omega⟩
    have hM : sf_MB (iq_uz (iq_uz (iq_uz (iq_uz G 77 9 0) 77 17 0) 77 16 (-1)) 77 13 0) A a := by
      refine ⟨by rw [← b3]; simp [iq_uz], ha, fun i y1 y2 => ?_⟩
      rw [sf_uzn _ (by decide), sf_uzn _ (by decide), sf_uzn _ (by decide), sf_uzn _ (by decide)]
      exact b4 i y1 (by omega)
    refine sp96 (p := 0) hM (by simp [iq_uz]) (by omega) (fun g1 c1 c2 => ⟨rfl, q g1 ⟨fun j y1 y2 => ?_, fun i y1 y2 => ?_⟩ (hM.k c1) c2 ?_ ?_ ?_⟩)
    · rw [c1.1 j y1, sf_uzn _ y1, sf_uzn _ y1, sf_uzn _ y1, sf_uzn _ y1]; exact b1 j y1 y2
    · rw [c1.2 i (by omega), ← b2 i (by omega)]
      have z1 : ¬ i = 9 := by omega
      have z2 : ¬ i = 17 := by omega
      have z3 : ¬ i = 16 := by omega
      have z4 : ¬ i = 13 := by omega
      simp [iq_uz, z1, z2, z3, z4]
    · rw [c1.2 9 (by omega)]; simp [iq_uz]
    · rw [c1.2 17 (by omega)]; simp [iq_uz]
    · rw [c1.2 16 (by omega)]; simp [iq_uz]
  | succ f ih =>
    intro k G hk b1 b2 b3 b4
    refine B97_p26_77 _ _ _ _ _ ⟨by omega, fun h => by omega, fun _ => ⟨by omega, by omega, ?_⟩⟩
    rw [show ((k : Nat) : Int) + 1 = ((k + 1 : Nat) : Int) by omega, b1 82 (by decide) (by decide)]
    refine ih (k + 1) _ (by omega) (fun j y1 y2 => by rw [sf_uzn _ y2]; exact b1 j y1 y2) (fun i y => by rw [sf_uzn _ (by decide)]; exact b2 i y) (by rw [sf_uzn _ (by decide)]; exact b3) (fun i y1 y2 => ?_)
    by_cases e : i = k
    · rw [e, show (iq_uz G 83 k (iq_i2b (g 82 k))) 83 k = iq_i2b (g 82 k) by simp [iq_uz], sf_i2b255]
      exact hA k (by omega) (by omega)
    · rw [show (iq_uz G 83 k (iq_i2b (g 82 k))) 83 i = G 83 i by simp [iq_uz, e]]
      exact b4 i y1 (by omega)
theorem sp97 {N : Nat} {xs : Nat → Int32} {Q : iq_T} {g : iq_I} {l : iq_J} {A : Int → Int} {a v : Int} (h9 : 0 ≤ g 77 9 ∧ g 77 9 ≤ 900) (ha : -2147483648 ≤ a ∧ a ≤ 2147483647) (hv : 0 ≤ v ∧ v ≤ 900) (hA : ∀ k : Int, 0 ≤ k → k < g 77 9 → iq_and (g 82 k) 255 = A k) (q1 : 0 ≤ a ∧ a ≤ g 77 9 ∧ a ≤ v → ∀ g' : iq_I, sf_BK g g' → sf_MB g' A a → sf_MT1 g' A a 0 → g' 77 9 = 0 → g' 77 17 = 0 → g' 77 16 = -1 → Q (some (iq_i 1)) g' l) (q0 : ¬ (0 ≤ a ∧ a ≤ g 77 9 ∧ a ≤ v) → Q (some (iq_i 0)) g l) : iq_P N xs 97 0 [some (iq_r 77), some (iq_i a), some (iq_i v), none] [] g l Q := by
  refine B97_77 _ _ _ _ ⟨by omega, fun c => q0 (by omega), fun c1 => ⟨by omega, fun c => q0 (by omega), fun c2 => ⟨by omega, fun c3 => ?_, fun c => q0 (by omega)⟩⟩⟩
  exact sp97_p (by omega) (fun k y1 y2 => hA k y1 (by omega)) (q1 ⟨c1, c2, c3⟩) a.toNat 0 _ (by omega) (fun j y1 y2 => sf_uzn _ y1 _ _) (fun i y => by simp [iq_uz, y]) (by simp [iq_uz]) (fun i y1 y2 => by omega)
/-- a plain scale -/
theorem sp19 {N : Nat} {xs : Nat → Int32} {Q : iq_T} {g : iq_I} {l : iq_J} (q : ∀ g' : iq_I, (∀ j, ¬ j = 78 → g' j = g j) → (∀ k, ¬ (1840 ≤ k ∧ k < 2300) → g' 78 k = g 78 k) → sf_NP g' sf_P0 0 → g' 78 1849 = 0 → g' 78 1850 = -1 → Q none g' l) : iq_P N xs 19 0 [some (iq_r 77), some (iq_i 1840), none] [] g l Q := by
  have main : ∀ (f v : Nat) (G : iq_I), v + f = 460 → (∀ j, ¬ j = 78 → G j = g j) → (∀ k, ¬ (1840 ≤ k ∧ k < 2300) → G 78 k = g 78 k) → (∀ k : Int, 1840 ≤ k → k < 1840 + v → G 78 k = 0) → iq_P N xs 19 2 [some (iq_r 77), some (iq_i 1840), some (iq_i v)] [] G l Q := by
    intro f
    induction f with
    | zero =>
      intro v G hv b1 b2 b3
      refine B19_p2_77 _ _ _ _ ⟨by omega, fun _ => ⟨by omega, by omega, by omega, by omega, by omega, by omega, by omega, by omega, q _ (fun j y => ?_) (fun k y => ?_) ⟨fun k y1 y2 => ?_, fun t y1 y2 => ?_⟩ ?_ ?_⟩, fun h => by omega⟩
      · rw [sf_uzn _ y, sf_uzn _ y, sf_uzn _ y, sf_uzn _ y, sf_uzn _ y, sf_uzn _ y, sf_uzn _ y, sf_uzn _ y]; exact b1 j y
      · rw [iq_uz78 (by omega), iq_uz78 (by omega), iq_uz78 (by omega), iq_uz78 (by omega), iq_uz78 (by omega), iq_uz78 (by omega), iq_uz78 (by omega), iq_uz78 (by omega)]; exact b2 k y
      · have : k = 0 ∨ k = 1 ∨ k = 2 ∨ k = 3 ∨ k = 4 ∨ k = 5 ∨ k = 6 ∨ k = 7 ∨ k = 8 := by omega
        have z4 := b3 1844 (by omega) (by omega)
        have z5 := b3 1845 (by omega) (by omega)
        rcases this with e | e | e | e | e | e | e | e | e <;> subst e <;> simp [iq_uz, z4, z5] <;> decide +kernel
      · rw [iq_uz78 (by omega), iq_uz78 (by omega), iq_uz78 (by omega), iq_uz78 (by omega), iq_uz78 (by omega), iq_uz78 (by omega), iq_uz78 (by omega), iq_uz78 (by omega), b3 _ (by omega) (by omega), iq_tb_0]
        rfl
      · rw [iq_uz78 (by omega), iq_uz78 (by omega), iq_uz78 (by omega), iq_uz78 (by omega), iq_uz78 (by omega), iq_uz78 (by omega), iq_uz78 (by omega), iq_uz78 (by omega)]; exact b3 _ (by omega) (by omega)
      · simp [iq_uz]
    | succ f ih =>
      intro v G hv b1 b2 b3
      refine B19_p2_77 _ _ _ _ ⟨by omega, fun h => by omega, fun _ => ⟨by omega, ?_⟩⟩
      rw [show ((v : Nat) : Int) + 1 = ((v + 1 : Nat) : Int) by omega]
      refine ih (v + 1) _ (by omega) (fun j y => by rw [sf_uzn _ y]; exact b1 j y) (fun k y => by rw [iq_uz78 (by omega)]; exact b2 k y) (fun k y1 y2 => ?_)
      by_cases e : k = 1840 + v
      · rw [e]; simp [iq_uz]
      · rw [iq_uz78 e]; exact b3 k y1 (by omega)
  exact B19_77 _ _ _ (main 460 0 g (by omega) (fun _ _ => rfl) (fun _ _ => rfl) (fun k y1 y2 => by omega))
