/-! feed, both sides; fault and the tape in one relation. -/
def sf_t20 (T : Int → Int) (f a b c d e : Int) : Int → Int := sf_t4 (sf_t4 (sf_t4 (sf_t4 (sf_t4 T f a) (f + 4) b) (f + 8) c) (f + 12) d) (f + 16) e
/-- the tapes agree -/
def iq_TP (g : iq_I) : Prop := g 10 1 = g 77 9 ∧ (0 ≤ g 77 9 ∧ g 77 9 ≤ 900) ∧ (∀ k, 0 ≤ k → k < g 77 9 → g 11 k = g 82 k)
theorem sf_t4c {T T' : Int → Int} {f x : Int} (h : ∀ k, 0 ≤ k → k < f → T k = T' k) : ∀ k, 0 ≤ k → k < f + 4 → sf_t4 T f x k = sf_t4 T' f x k := by
  intro k a b
  unfold sf_t4
  by_cases c0 : k = f
  · rw [if_pos c0, if_pos c0]
  · rw [if_neg c0, if_neg c0]
    by_cases c1 : k = f + 1
    · rw [if_pos c1, if_pos c1]
    · rw [if_neg c1, if_neg c1]
      by_cases c2 : k = f + 2
      · rw [if_pos c2, if_pos c2]
      · rw [if_neg c2, if_neg c2]
        by_cases c3 : k = f + 3
        · rw [if_pos c3, if_pos c3]
        · rw [if_neg c3, if_neg c3]
          exact h k a (by omega)
theorem sf_t20c {T T' : Int → Int} {f a b c d e : Int} (h : ∀ k, 0 ≤ k → k < f → T k = T' k) : ∀ k, 0 ≤ k → k < f + 20 → sf_t20 T f a b c d e k = sf_t20 T' f a b c d e k := by
  intro k x y
  unfold sf_t20
  refine sf_t4c (fun k x y => sf_t4c (fun k x y => sf_t4c (fun k x y => sf_t4c (fun k x y => sf_t4c h k x y) k x (by omega)) k x (by omega)) k x (by omega)) k x (by omega)
theorem feed_52 {N : Nat} {xs : Nat → Int32} {Q : iq_T} {g : iq_I} {l : iq_J} {a0 a1 a2 a3 a4 : Int} (hf : 0 ≤ g 10 1 ∧ g 10 1 ≤ 900) (q1 : g 10 1 ≤ 880 → ∀ g' : iq_I, iq_KM iq_Mt g l g' l → g' 0 0 = g 0 0 → g' 77 1 = g 77 1 → g' 10 1 = g 10 1 + 20 → g' 11 = sf_t20 (g 11) (g 10 1) a0 a1 a2 a3 a4 → Q (some (iq_i (g 10 1 + 20))) g' l) (q0 : ¬ g 10 1 ≤ 880 → Q (some (iq_i (-1))) g l) : iq_P N xs 52 0 [some (iq_r 0), some (iq_i a0), some (iq_i a1), some (iq_i a2), some (iq_i a3), some (iq_i a4)] [] g l Q := by
  refine B52_0 _ _ _ _ _ _ _ ⟨by omega, fun h => ?_, fun h => q0 (by omega)⟩
  refine sp51 (by omega) (fun g1 b1 b2 b3 b4 b5 => ⟨rfl, sp51 (by omega) (fun g2 c1 c2 c3 c4 c5 => ⟨rfl, sp51 (by omega) (fun g3 d1 d2 d3 d4 d5 => ⟨rfl, sp51 (by omega) (fun g4 e1 e2 e3 e4 e5 => ⟨rfl, sp51 (by omega) (fun g5 f1 f2 f3 f4 f5 => ⟨rfl, ?_⟩)⟩)⟩)⟩)⟩)
  have e20 : g5 10 1 = g 10 1 + 20 := by omega
  rw [e20]
  refine q1 (by omega) g5 ((((b1.trans c1).trans d1).trans e1).trans f1) (by omega) (by omega) e20 ?_
  rw [f5, e5, d5, c5, b5]
  unfold sf_t20
  rw [show g4 10 1 = g 10 1 + 16 by omega, show g3 10 1 = g 10 1 + 12 by omega, show g2 10 1 = g 10 1 + 8 by omega, b4]
theorem feed_54 {N : Nat} {xs : Nat → Int32} {Q : iq_T} {g : iq_I} {l : iq_J} {a0 a1 a2 a3 a4 : Int} (hf : 0 ≤ g 77 9 ∧ g 77 9 ≤ 900) (q1 : g 77 9 ≤ 880 → ∀ g' : iq_I, iq_KM iq_Mv g l g' l → g' 0 0 = g 0 0 → g' 77 1 = g 77 1 → g' 77 9 = g 77 9 + 20 → g' 82 = sf_t20 (g 82) (g 77 9) a0 a1 a2 a3 a4 → Q (some (iq_i (g 77 9 + 20))) g' l) (q0 : ¬ g 77 9 ≤ 880 → Q (some (iq_i (-1))) g l) : iq_P N xs 54 0 [some (iq_r 77), some (iq_i a0), some (iq_i a1), some (iq_i a2), some (iq_i a3), some (iq_i a4)] [] g l Q := by
  refine B54_77 _ _ _ _ _ _ _ ⟨by omega, fun h => ?_, fun h => q0 (by omega)⟩
  refine sp53 (by omega) (fun g1 b1 b2 b3 b4 b5 => ⟨rfl, sp53 (by omega) (fun g2 c1 c2 c3 c4 c5 => ⟨rfl, sp53 (by omega) (fun g3 d1 d2 d3 d4 d5 => ⟨rfl, sp53 (by omega) (fun g4 e1 e2 e3 e4 e5 => ⟨rfl, sp53 (by omega) (fun g5 f1 f2 f3 f4 f5 => ⟨rfl, ?_⟩)⟩)⟩)⟩)⟩)
  have e20 : g5 77 9 = g 77 9 + 20 := by omega
  rw [e20]
  refine q1 (by omega) g5 ((((b1.trans c1).trans d1).trans e1).trans f1) (by omega) (by omega) e20 ?_
  rw [f5, e5, d5, c5, b5]
  unfold sf_t20
  rw [show g4 77 9 = g 77 9 + 16 by omega, show g3 77 9 = g 77 9 + 12 by omega, show g2 77 9 = g 77 9 + 8 by omega, b4]
