/-! feed and fault. -/
def sf_by (x s : Int) : Int := iq_i2b (iq_i2b (iq_shr x s))
def sf_t4 (T : Int → Int) (f x : Int) : Int → Int := fun k => if k = f then sf_by x 24 else if k = f + 1 then sf_by x 16 else if k = f + 2 then sf_by x 8 else if k = f + 3 then sf_by x 0 else T k
def iq_Mt : Nat → Int → Bool := fun j k => (decide (j = 10) && decide (k = 1)) || decide (j = 11)
def iq_Mv : Nat → Int → Bool := fun j k => (decide (j = 77) && decide (k = 9)) || decide (j = 82)
theorem sp51 {N : Nat} {xs : Nat → Int32} {Q : iq_T} {g : iq_I} {l : iq_J} {x : Int} (hf : 0 ≤ g 10 1 ∧ g 10 1 ≤ 896) (q : ∀ g' : iq_I, iq_KM iq_Mt g l g' l → g' 0 0 = g 0 0 → g' 77 1 = g 77 1 → g' 10 1 = g 10 1 + 4 → g' 11 = sf_t4 (g 11) (g 10 1) x → Q none g' l) : iq_P N xs 51 0 [some (iq_r 10), some (iq_i x), none] [] g l Q := by
  have one : ∀ (g1 : iq_I) (s : Int) (f : Int), (0 ≤ s ∧ s ≤ 24) → g1 10 1 = f → (0 ≤ f ∧ f < 900) → iq_P N xs 51 3 [some (iq_r 10), some (iq_i x), some (iq_i (s + (-8)))] [] (iq_uz (iq_uz g1 11 f (sf_by x s)) 10 1 (f + 1)) l Q → iq_P N xs 51 3 [some (iq_r 10), some (iq_i x), some (iq_i s)] [] g1 l Q := by
    intro g1 s f hs e1 hff h
    refine B51_p3_10 _ _ _ _ ⟨by omega, fun h => by omega, fun _ => ⟨by omega, fun h => by omega, fun _ => ?_⟩⟩
    rw [e1]
    exact ⟨hff, h⟩
  have step : ∀ (g1 : iq_I) (f v : Int), (iq_uz (iq_uz g1 11 f v) 10 1 (f + 1)) 10 1 = f + 1 := fun g1 f v => by simp [iq_uz]
  refine B51_10 _ _ _ (one g 24 (g 10 1) (by omega) rfl (by omega) (one _ (24 + (-8)) _ (by omega) (step _ _ _) (by omega) (one _ (24 + (-8) + (-8)) _ (by omega) (step _ _ _) (by omega) (one _ (24 + (-8) + (-8) + (-8)) _ (by omega) (step _ _ _) (by omega) ?_))))
  refine B51_p3_10 _ _ _ _ ⟨by omega, fun _ => ?_, fun h => by omega⟩
  refine q _ ((((((((((iq_KK.refl g l).km iq_Mt).uz ?_).uz ?_).uz ?_).uz ?_).uz ?_).uz ?_).uz ?_).uz ?_) (by simp [iq_uz]) (by simp [iq_uz]) ?_ ?_
  any_goals (right; simp [iq_Mt])
  · simp [iq_uz]; omega
  · funext k
    unfold sf_t4
    by_cases c3 : k = g 10 1 + 3
    · subst c3; simp [iq_uz]; try omega
    · by_cases c2 : k = g 10 1 + 2
      · subst c2; simp [iq_uz]; try omega
      · by_cases c1 : k = g 10 1 + 1
        · subst c1; simp [iq_uz]; try omega
        · by_cases c0 : k = g 10 1
          · subst c0; simp [iq_uz]; try omega
          · have d2 : ¬ k = g 10 1 + 1 + 1 := by omega
            have d3 : ¬ k = g 10 1 + 1 + 1 + 1 := by omega
            simp [iq_uz, c0, c1, c2, c3, d2, d3]
theorem sp53 {N : Nat} {xs : Nat → Int32} {Q : iq_T} {g : iq_I} {l : iq_J} {x : Int} (hf : 0 ≤ g 77 9 ∧ g 77 9 ≤ 896) (q : ∀ g' : iq_I, iq_KM iq_Mv g l g' l → g' 0 0 = g 0 0 → g' 77 1 = g 77 1 → g' 77 9 = g 77 9 + 4 → g' 82 = sf_t4 (g 82) (g 77 9) x → Q none g' l) : iq_P N xs 53 0 [some (iq_r 77), some (iq_i x), none] [] g l Q := by
  have one : ∀ (g1 : iq_I) (s : Int) (f : Int), (0 ≤ s ∧ s ≤ 24) → g1 77 9 = f → (0 ≤ f ∧ f < 900) → iq_P N xs 53 3 [some (iq_r 77), some (iq_i x), some (iq_i (s + (-8)))] [] (iq_uz (iq_uz g1 82 f (sf_by x s)) 77 9 (f + 1)) l Q → iq_P N xs 53 3 [some (iq_r 77), some (iq_i x), some (iq_i s)] [] g1 l Q := by
    intro g1 s f hs e1 hff h
    refine B53_p3_77 _ _ _ _ ⟨by omega, fun h => by omega, fun _ => ?_⟩
    rw [e1]
    exact ⟨hff, h⟩
  have step : ∀ (g1 : iq_I) (f v : Int), (iq_uz (iq_uz g1 82 f v) 77 9 (f + 1)) 77 9 = f + 1 := fun g1 f v => by simp [iq_uz]
  refine B53_77 _ _ _ (one g 24 (g 77 9) (by omega) rfl (by omega) (one _ (24 + (-8)) _ (by omega) (step _ _ _) (by omega) (one _ (24 + (-8) + (-8)) _ (by omega) (step _ _ _) (by omega) (one _ (24 + (-8) + (-8) + (-8)) _ (by omega) (step _ _ _) (by omega) ?_))))
  refine B53_p3_77 _ _ _ _ ⟨by omega, fun _ => ?_, fun h => by omega⟩
  refine q _ ((((((((((iq_KK.refl g l).km iq_Mv).uz ?_).uz ?_).uz ?_).uz ?_).uz ?_).uz ?_).uz ?_).uz ?_) (by simp [iq_uz]) (by simp [iq_uz]) ?_ ?_
  any_goals (right; simp [iq_Mv])
  · simp [iq_uz]; omega
  · funext k
    unfold sf_t4
    by_cases c3 : k = g 77 9 + 3
    · subst c3; simp [iq_uz]; try omega
    · by_cases c2 : k = g 77 9 + 2
      · subst c2; simp [iq_uz]; try omega
      · by_cases c1 : k = g 77 9 + 1
        · subst c1; simp [iq_uz]; try omega
        · by_cases c0 : k = g 77 9
          · subst c0; simp [iq_uz]; try omega
          · have d2 : ¬ k = g 77 9 + 1 + 1 := by omega
            have d3 : ¬ k = g 77 9 + 1 + 1 + 1 := by omega
            simp [iq_uz, c0, c1, c2, c3, d2, d3]
theorem cFault {N : Nat} {xs : Nat → Int32} {Q : iq_T} {g : iq_I} {l : iq_J} {a : Int} (ha : -2147483648 ≤ a ∧ a ≤ 2147483647) (q : Q (some (iq_i (if a = 0 then g 10 7 else if a = 1 then g 10 8 else -1))) g l) : iq_P N xs 133 0 [some (iq_r 0), some (iq_i a)] [] g l Q := by
  refine B133_0 _ _ _ ⟨by omega, fun c => ⟨by omega, fun d => ?_, fun d => ?_⟩, fun c => ?_⟩
  · rw [if_neg c, if_neg d] at q; exact q
  · rw [if_neg c, if_pos d] at q; exact q
  · rw [if_pos c] at q; exact q
theorem mFault {N : Nat} {xs : Nat → Int32} {Q : iq_T} {g : iq_I} {l : iq_J} {a : Int} (ha : -2147483648 ≤ a ∧ a ≤ 2147483647) (q : Q (some (iq_i (if a = 0 then g 77 15 else if a = 1 then g 77 16 else -1))) g l) : iq_P N xs 134 0 [some (iq_r 77), some (iq_i a)] [] g l Q := by
  refine B134_77 _ _ _ ⟨by omega, fun c => ⟨by omega, fun d => ?_, fun d => ?_⟩, fun c => ?_⟩
  · rw [if_neg c, if_neg d] at q; exact q
  · rw [if_neg c, if_pos d] at q; exact q
  · rw [if_pos c] at q; exact q
