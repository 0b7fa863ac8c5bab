/-! lived and logAt. -/
/-- what was lived, in both -/
def iq_LF (g : iq_I) : Prop := ((0 ≤ g 40 8 ∧ g 40 8 ≤ 1) ∧ (0 ≤ g 77 54 ∧ g 77 54 ≤ 1)) ∧ (g 40 8 = 0 ↔ g 77 54 = 0) ∧ (g 77 54 = 0 → g 40 13 = 0) ∧ (¬ g 77 54 = 0 → (∀ i, 0 ≤ i → i < 4 → g 102 i = g 40 (10 + i)) ∧ ((0 ≤ g 40 14 ∧ g 40 14 ≤ 1) ∧ g 102 4 = if g 40 14 = 0 then 0 else 1) ∧ g 77 47 = min 60 (g 40 13) ∧ (0 ≤ g 40 13 ∧ g 40 13 ≤ 1000000) ∧ (∀ k, 0 ≤ k → k < g 40 13 → k < 60 → g 105 k = g 43 k ∧ 0 ≤ g 43 k ∧ g 43 k ≤ 99))
def aLived (g : iq_I) (a : Int) : Int × Int := if 0 ≤ a ∧ a ≤ 4 then (if g 77 54 = 0 then (-1, 6) else (g 102 a, 0)) else (-1, 1)
theorem cLived {N : Nat} {xs : Nat → Int32} {Q : iq_T} {g : iq_I} {l : iq_J} {a : Int} (h : iq_LF g) (ha : -2147483648 ≤ a ∧ a ≤ 2147483647) (q : Q (some (iq_i (aLived g a).1)) (iq_uz g 0 0 (aLived g a).2) l) : iq_P N xs 348 0 [some (iq_r 0), some (iq_i a)] [] g l Q := by
  obtain ⟨h1, h2, h3, h4⟩ := h
  unfold aLived at q
  refine B348_0 _ _ _ ⟨by omega, fun c => ?_, fun c1 => ⟨by omega, fun c2 => ⟨by omega, fun d => ?_, fun d => ?_⟩, fun c => ?_⟩⟩
  · rw [if_neg (by omega)] at q; exact sp44 ⟨_, rfl, q⟩
  · rw [if_pos ⟨c1, c2⟩, if_pos (h2.mp d)] at q; exact sp44 ⟨_, rfl, q⟩
  · have d' : ¬ g 77 54 = 0 := fun e => d (h2.mpr e)
    rw [if_pos ⟨c1, c2⟩, if_neg d'] at q
    obtain ⟨k1, k2, k3, k4, k5⟩ := h4 d'
    refine B347_40 _ _ _ ⟨by omega, ⟨fun e => ?_, fun e => ?_, fun e => ?_, fun e => ?_, trivial⟩, fun e => ⟨by omega, fun f => ?_, fun f => ?_⟩⟩
    · subst e; rw [k1 0 (by omega) (by omega)] at q; exact ⟨_, rfl, sp90 ⟨_, rfl, q⟩⟩
    · subst e; rw [k1 1 (by omega) (by omega)] at q; exact ⟨_, rfl, sp90 ⟨_, rfl, q⟩⟩
    · subst e; rw [k1 2 (by omega) (by omega)] at q; exact ⟨_, rfl, sp90 ⟨_, rfl, q⟩⟩
    · subst e; rw [k1 3 (by omega) (by omega)] at q; exact ⟨_, rfl, sp90 ⟨_, rfl, q⟩⟩
    · have e4 : a = 4 := by omega
      subst e4; rw [k2.2, if_pos f] at q; exact ⟨_, rfl, sp90 ⟨_, rfl, q⟩⟩
    · have e4 : a = 4 := by omega
      subst e4; rw [k2.2, if_neg f] at q; exact ⟨_, rfl, sp90 ⟨_, rfl, q⟩⟩
  · rw [if_neg (by omega)] at q; exact sp44 ⟨_, rfl, q⟩
theorem mLived {N : Nat} {xs : Nat → Int32} {Q : iq_T} {g : iq_I} {l : iq_J} {a : Int} (h : iq_LF g) (ha : -2147483648 ≤ a ∧ a ≤ 2147483647) (q : Q (some (iq_i (aLived g a).1)) (iq_uz g 77 1 (aLived g a).2) l) : iq_P N xs 349 0 [some (iq_r 77), some (iq_i a)] [] g l Q := by
  obtain ⟨h1, h2, h3, h4⟩ := h
  unfold aLived at q
  refine B349_77 _ _ _ ⟨by omega, fun c => ?_, fun c1 => ⟨by omega, fun c2 => ⟨by omega, fun d => ?_, fun d => ⟨by omega, ?_⟩⟩, fun c => ?_⟩⟩
  · rw [if_neg (by omega)] at q; exact sp98 ⟨_, rfl, q⟩
  · rw [if_pos ⟨c1, c2⟩, if_pos d] at q; exact sp98 ⟨_, rfl, q⟩
  · rw [if_pos ⟨c1, c2⟩, if_neg d] at q; exact sp115 ⟨_, rfl, q⟩
  · rw [if_neg (by omega)] at q; exact sp98 ⟨_, rfl, q⟩
def aLogAt (g : iq_I) (k : Int) : Int × Int := if 0 ≤ k ∧ k < g 40 13 ∧ k < 60 then (g 43 k, 0) else (-1, 6)
theorem cLogAt {N : Nat} {xs : Nat → Int32} {Q : iq_T} {g : iq_I} {l : iq_J} {k : Int} (h : iq_LF g) (hk : -2147483648 ≤ k ∧ k ≤ 2147483647) (q : Q (some (iq_i (aLogAt g k).1)) (iq_uz g 0 0 (aLogAt g k).2) l) : iq_P N xs 351 0 [some (iq_r 0), some (iq_i k)] [] g l Q := by
  obtain ⟨h1, h2, h3, h4⟩ := h
  have r13 : 0 ≤ g 40 13 ∧ g 40 13 ≤ 1000000 := by
    by_cases c : g 77 54 = 0
    · rw [h3 c]; omega
    · exact (h4 c).2.2.2.1
  unfold aLogAt at q
  have no : ¬ (0 ≤ k ∧ k < g 40 13 ∧ k < 60) → iq_P N xs 167 0 [some (iq_r 0), some (iq_i (-1))] [] g l (fun r g4 l5 => ∃ z6, r = some (iq_i z6) ∧ (Q (some (iq_i z6)) g4 l5)) := fun c => by
    rw [if_neg c] at q
    exact sp167 (by omega) (fun _ => ⟨_, rfl, q⟩) (fun h => by omega)
  refine B351_0 _ _ _ (B350_40 _ _ _ ⟨by omega, fun c => ⟨_, rfl, no (by omega)⟩, fun c1 => ⟨by omega, fun c => ⟨_, rfl, no (by omega)⟩, fun c2 => ⟨by omega, fun c => ⟨_, rfl, no (by omega)⟩, fun c3 => ⟨by omega, _, rfl, ?_⟩⟩⟩⟩)
  have d' : ¬ g 77 54 = 0 := fun e => by rw [h3 e] at c2; omega
  have kk := (h4 d').2.2.2.2 k c1 c2 c3
  rw [if_pos ⟨c1, c2, c3⟩] at q
  exact sp167 (by omega) (fun h => by omega) (fun _ => ⟨_, rfl, q⟩)
theorem mLogAt {N : Nat} {xs : Nat → Int32} {Q : iq_T} {g : iq_I} {l : iq_J} {k : Int} (h : iq_LF g) (hk : -2147483648 ≤ k ∧ k ≤ 2147483647) (q : Q (some (iq_i (aLogAt g k).1)) (iq_uz g 77 1 (aLogAt g k).2) l) : iq_P N xs 352 0 [some (iq_r 77), some (iq_i k)] [] g l Q := by
  obtain ⟨h1, h2, h3, h4⟩ := h
  unfold aLogAt at q
  refine B352_77 _ _ _ ⟨by omega, fun c => ?_, fun c => ?_⟩
  · rw [if_neg (by rw [h3 c]; omega)] at q; exact sp98 ⟨_, rfl, q⟩
  · obtain ⟨k1, k2, k3, k4, k5⟩ := h4 c
    refine ⟨by omega, fun d => ?_, fun d1 => ⟨by omega, fun d => ?_, fun d2 => ⟨by omega, ?_⟩⟩⟩
    · rw [if_neg (by omega)] at q; exact sp98 ⟨_, rfl, q⟩
    · rw [if_neg (by omega)] at q; exact sp98 ⟨_, rfl, q⟩
    · rw [if_pos ⟨d1, by omega, by omega⟩, ← (k5 k d1 (by omega) (by omega)).1] at q
      exact sp115 ⟨_, rfl, q⟩
