/-! mark and undo in the class. -/
/-- a scale copied, studies copied -/
def sf_cp (g : iq_I) (l : iq_J) (s p r : Nat) (g' : iq_I) (l' : iq_J) (s' p' r' : Nat) : Prop := (∀ i, 0 ≤ i → i < 9 → g' p' i = g p i) ∧ (∀ i, 0 ≤ i → i < 12 → g' r' i = g r i) ∧ g' s' 2 = g s 2 ∧ l' s' 3 = l s 3 ∧ l' s' 4 = l s 4
def sf_cq (g : iq_I) (u : Nat) (g' : iq_I) (u' : Nat) : Prop := (∀ i, 0 ≤ i → i < 30 → g' (u' + 1) i = g (u + 1) i ∧ g' (u' + 2) i = g (u + 2) i ∧ g' (u' + 3) i = g (u + 3) i ∧ g' (u' + 4) i = g (u + 4) i) ∧ g' u' 4 = g u 4 ∧ g' u' 5 = g u 5
theorem sf_18 {N : Nat} {xs : Nat → Int32} {Q : iq_T} {g : iq_I} {l : iq_J} {y pc : Nat} {L : iq_LV} {st : List iq_V} (k : Int) (h : g 0 18 = k) (p : iq_P N xs y pc L st (iq_uz g 0 18 k) l Q) : iq_P N xs y pc L st g l Q := by
  have e : iq_uz g 0 18 k = g := by
    funext j i
    unfold iq_uz
    split
    · next c => rw [c.1, c.2, h]
    · rfl
  rw [e] at p
  exact p
theorem sf_mk1 {N : Nat} {xs : Nat → Int32} {Q : iq_T} {g : iq_I} {l : iq_J} (v : Int) (h : g 0 18 = v) (q : Q (some (iq_i (v + 1))) (iq_uz (iq_uz g 0 18 (v + 1)) 0 0 0) l) : iq_P N xs 90 0 [some (iq_r 0), some (iq_i (g 0 18 + 1))] [] (iq_uz g 0 18 (g 0 18 + 1)) l (fun r g3 l4 => ∃ z5, r = some (iq_i z5) ∧ Q (some (iq_i z5)) g3 l4) := by
  rw [h]
  exact sp90 ⟨_, rfl, q⟩
theorem sf_un1 {N : Nat} {xs : Nat → Int32} {Q : iq_T} {g : iq_I} {l : iq_J} (v : Int) (h : g 0 18 = v) (q : Q (some (iq_i v)) (iq_uz g 0 0 0) l) : iq_P N xs 90 0 [some (iq_r 0), some (iq_i (g 0 18))] [] g l (fun r g3 l4 => ∃ z5, r = some (iq_i z5) ∧ Q (some (iq_i z5)) g3 l4) := by
  rw [h]
  exact sp90 ⟨_, rfl, q⟩
/-- outside of a mark's cells all is as it was -/
def sf_mo (a b : Nat) (g : iq_I) (l : iq_J) (g' : iq_I) (l' : iq_J) : Prop := ∀ j i, ¬ (a ≤ j ∧ j ≤ b) → ¬ (j = 0 ∧ (i = 0 ∨ i = 18)) → g' j i = g j i ∧ l' j i = l j i
theorem cMark_0 {N : Nat} {xs : Nat → Int32} {Q : iq_T} {g : iq_I} {l : iq_J} (e : g 0 18 = 0) (hb : g 26 5 = 0 ∨ g 26 5 = 1) (q : ∀ (g' : iq_I) (l' : iq_J), sf_mo 53 60 g l g' l' → sf_cp g l 23 24 25 g' l' 53 54 55 → sf_cq g 26 g' 56 → g' 0 0 = 0 → g' 0 18 = 0 + 1 → Q (some (iq_i (0 + 1))) g' l') : iq_P N xs 356 21 [some (iq_r 0)] [] g l Q := by
  refine sf_18 0 e (B356_k0 _ _ ⟨by omega, B87_53_23 _ _ ⟨by omega, by omega, rfl, ?_⟩⟩)
  refine sf_18 0 (by simp [iq_uz, iq_rz]) (B356_j0 _ _ ⟨by omega, B127_56_26 _ _ ⟨by omega, by omega, by omega, by omega, B127_p68_56_26 _ _ ⟨?_, rfl, ?_⟩⟩⟩)
  · simpa [iq_uz, iq_rz] using hb
  · refine sf_mk1 0 (by simp [iq_uz, iq_rz]) (q _ _ (fun j i x y => ⟨?_, ?_⟩) ⟨fun i x y => ?_, fun i x y => ?_, ?_, ?_, ?_⟩ ⟨fun i x y => ⟨?_, ?_, ?_, ?_⟩, ?_, ?_⟩ (by simp [iq_uz]) (by simp [iq_uz]))
    · have h1 : ¬ j = 53 := by omega
      have h2 : ¬ j = 54 := by omega
      have h3 : ¬ j = 55 := by omega
      have h4 : ¬ j = 56 := by omega
      have h5 : ¬ j = 57 := by omega
      have h6 : ¬ j = 58 := by omega
      have h7 : ¬ j = 59 := by omega
      have h8 : ¬ j = 60 := by omega
      have h9 : ¬ (j = 0 ∧ i = 0) := by omega
      have hA : ¬ (j = 0 ∧ i = 18) := by omega
      simp [iq_uz, iq_rz, h1, h2, h3, h4, h5, h6, h7, h8, h9, hA]
    · have h1 : ¬ j = 53 := by omega
      simp [iq_uz, h1]
    all_goals simp [iq_uz, iq_rz, iq_cz, *]
theorem cUndo_0 {N : Nat} {xs : Nat → Int32} {Q : iq_T} {g : iq_I} {l : iq_J} (e : g 0 18 = 0) (hb : g 56 5 = 0 ∨ g 56 5 = 1) (q : ∀ (g' : iq_I) (l' : iq_J), sf_mo 23 30 g l g' l' → sf_cp g l 53 54 55 g' l' 23 24 25 → sf_cq g 56 g' 26 → g' 0 0 = 0 → g' 0 18 = 0 → Q (some (iq_i 0)) g' l') : iq_P N xs 359 33 [some (iq_r 0)] [] g l Q := by
  refine sf_18 0 e (B359_k0 _ _ ⟨by omega, B87_23_53 _ _ ⟨by omega, by omega, rfl, ?_⟩⟩)
  refine sf_18 0 (by simp [iq_uz, iq_rz]) (B359_j0 _ _ ⟨by omega, B127_26_56 _ _ ⟨by omega, by omega, by omega, by omega, B127_p68_26_56 _ _ ⟨?_, rfl, ?_⟩⟩⟩)
  · simpa [iq_uz, iq_rz] using hb
  · refine sf_un1 0 (by simp [iq_uz, iq_rz]) (q _ _ (fun j i x y => ⟨?_, ?_⟩) ⟨fun i x y => ?_, fun i x y => ?_, ?_, ?_, ?_⟩ ⟨fun i x y => ⟨?_, ?_, ?_, ?_⟩, ?_, ?_⟩ (by simp [iq_uz]) (by simp [iq_uz, iq_rz]))
    · have h1 : ¬ j = 23 := by omega
      have h2 : ¬ j = 24 := by omega
      have h3 : ¬ j = 25 := by omega
      have h4 : ¬ j = 26 := by omega
      have h5 : ¬ j = 27 := by omega
      have h6 : ¬ j = 28 := by omega
      have h7 : ¬ j = 29 := by omega
      have h8 : ¬ j = 30 := by omega
      have h9 : ¬ (j = 0 ∧ i = 0) := by omega
      have hA : ¬ (j = 0 ∧ i = 18) := by omega
      simp [iq_uz, iq_rz, h1, h2, h3, h4, h5, h6, h7, h8, h9, hA]
    · have h1 : ¬ j = 23 := by omega
      simp [iq_uz, h1]
    all_goals simp [iq_uz, iq_rz, iq_cz, *]
theorem cMark_1 {N : Nat} {xs : Nat → Int32} {Q : iq_T} {g : iq_I} {l : iq_J} (e : g 0 18 = 1) (hb : g 26 5 = 0 ∨ g 26 5 = 1) (q : ∀ (g' : iq_I) (l' : iq_J), sf_mo 61 68 g l g' l' → sf_cp g l 23 24 25 g' l' 61 62 63 → sf_cq g 26 g' 64 → g' 0 0 = 0 → g' 0 18 = 1 + 1 → Q (some (iq_i (1 + 1))) g' l') : iq_P N xs 356 21 [some (iq_r 0)] [] g l Q := by
  refine sf_18 1 e (B356_k1 _ _ ⟨by omega, B87_61_23 _ _ ⟨by omega, by omega, rfl, ?_⟩⟩)
  refine sf_18 1 (by simp [iq_uz, iq_rz]) (B356_j1 _ _ ⟨by omega, B127_64_26 _ _ ⟨by omega, by omega, by omega, by omega, B127_p68_64_26 _ _ ⟨?_, rfl, ?_⟩⟩⟩)
  · simpa [iq_uz, iq_rz] using hb
  · refine sf_mk1 1 (by simp [iq_uz, iq_rz]) (q _ _ (fun j i x y => ⟨?_, ?_⟩) ⟨fun i x y => ?_, fun i x y => ?_, ?_, ?_, ?_⟩ ⟨fun i x y => ⟨?_, ?_, ?_, ?_⟩, ?_, ?_⟩ (by simp [iq_uz]) (by simp [iq_uz]))
    · have h1 : ¬ j = 61 := by omega
      have h2 : ¬ j = 62 := by omega
      have h3 : ¬ j = 63 := by omega
      have h4 : ¬ j = 64 := by omega
      have h5 : ¬ j = 65 := by omega
      have h6 : ¬ j = 66 := by omega
      have h7 : ¬ j = 67 := by omega
      have h8 : ¬ j = 68 := by omega
      have h9 : ¬ (j = 0 ∧ i = 0) := by omega
      have hA : ¬ (j = 0 ∧ i = 18) := by omega
      simp [iq_uz, iq_rz, h1, h2, h3, h4, h5, h6, h7, h8, h9, hA]
    · have h1 : ¬ j = 61 := by omega
      simp [iq_uz, h1]
    all_goals simp [iq_uz, iq_rz, iq_cz, *]
theorem cUndo_1 {N : Nat} {xs : Nat → Int32} {Q : iq_T} {g : iq_I} {l : iq_J} (e : g 0 18 = 1) (hb : g 64 5 = 0 ∨ g 64 5 = 1) (q : ∀ (g' : iq_I) (l' : iq_J), sf_mo 23 30 g l g' l' → sf_cp g l 61 62 63 g' l' 23 24 25 → sf_cq g 64 g' 26 → g' 0 0 = 0 → g' 0 18 = 1 → Q (some (iq_i 1)) g' l') : iq_P N xs 359 33 [some (iq_r 0)] [] g l Q := by
  refine sf_18 1 e (B359_k1 _ _ ⟨by omega, B87_23_61 _ _ ⟨by omega, by omega, rfl, ?_⟩⟩)
  refine sf_18 1 (by simp [iq_uz, iq_rz]) (B359_j1 _ _ ⟨by omega, B127_26_64 _ _ ⟨by omega, by omega, by omega, by omega, B127_p68_26_64 _ _ ⟨?_, rfl, ?_⟩⟩⟩)
  · simpa [iq_uz, iq_rz] using hb
  · refine sf_un1 1 (by simp [iq_uz, iq_rz]) (q _ _ (fun j i x y => ⟨?_, ?_⟩) ⟨fun i x y => ?_, fun i x y => ?_, ?_, ?_, ?_⟩ ⟨fun i x y => ⟨?_, ?_, ?_, ?_⟩, ?_, ?_⟩ (by simp [iq_uz]) (by simp [iq_uz, iq_rz]))
    · have h1 : ¬ j = 23 := by omega
      have h2 : ¬ j = 24 := by omega
      have h3 : ¬ j = 25 := by omega
      have h4 : ¬ j = 26 := by omega
      have h5 : ¬ j = 27 := by omega
      have h6 : ¬ j = 28 := by omega
      have h7 : ¬ j = 29 := by omega
      have h8 : ¬ j = 30 := by omega
      have h9 : ¬ (j = 0 ∧ i = 0) := by omega
      have hA : ¬ (j = 0 ∧ i = 18) := by omega
      simp [iq_uz, iq_rz, h1, h2, h3, h4, h5, h6, h7, h8, h9, hA]
    · have h1 : ¬ j = 23 := by omega
      simp [iq_uz, h1]
    all_goals simp [iq_uz, iq_rz, iq_cz, *]
theorem cMark_2 {N : Nat} {xs : Nat → Int32} {Q : iq_T} {g : iq_I} {l : iq_J} (e : g 0 18 = 2) (hb : g 26 5 = 0 ∨ g 26 5 = 1) (q : ∀ (g' : iq_I) (l' : iq_J), sf_mo 69 76 g l g' l' → sf_cp g l 23 24 25 g' l' 69 70 71 → sf_cq g 26 g' 72 → g' 0 0 = 0 → g' 0 18 = 2 + 1 → Q (some (iq_i (2 + 1))) g' l') : iq_P N xs 356 21 [some (iq_r 0)] [] g l Q := by
  refine sf_18 2 e (B356_k2 _ _ ⟨by omega, B87_69_23 _ _ ⟨by omega, by omega, rfl, ?_⟩⟩)
  refine sf_18 2 (by simp [iq_uz, iq_rz]) (B356_j2 _ _ ⟨by omega, B127_72_26 _ _ ⟨by omega, by omega, by omega, by omega, B127_p68_72_26 _ _ ⟨?_, rfl, ?_⟩⟩⟩)
  · simpa [iq_uz, iq_rz] using hb
  · refine sf_mk1 2 (by simp [iq_uz, iq_rz]) (q _ _ (fun j i x y => ⟨?_, ?_⟩) ⟨fun i x y => ?_, fun i x y => ?_, ?_, ?_, ?_⟩ ⟨fun i x y => ⟨?_, ?_, ?_, ?_⟩, ?_, ?_⟩ (by simp [iq_uz]) (by simp [iq_uz]))
    · have h1 : ¬ j = 69 := by omega
      have h2 : ¬ j = 70 := by omega
      have h3 : ¬ j = 71 := by omega
      have h4 : ¬ j = 72 := by omega
      have h5 : ¬ j = 73 := by omega
      have h6 : ¬ j = 74 := by omega
      have h7 : ¬ j = 75 := by omega
      have h8 : ¬ j = 76 := by omega
      have h9 : ¬ (j = 0 ∧ i = 0) := by omega
      have hA : ¬ (j = 0 ∧ i = 18) := by omega
      simp [iq_uz, iq_rz, h1, h2, h3, h4, h5, h6, h7, h8, h9, hA]
    · have h1 : ¬ j = 69 := by omega
      simp [iq_uz, h1]
    all_goals simp [iq_uz, iq_rz, iq_cz, *]
theorem cUndo_2 {N : Nat} {xs : Nat → Int32} {Q : iq_T} {g : iq_I} {l : iq_J} (e : g 0 18 = 2) (hb : g 72 5 = 0 ∨ g 72 5 = 1) (q : ∀ (g' : iq_I) (l' : iq_J), sf_mo 23 30 g l g' l' → sf_cp g l 69 70 71 g' l' 23 24 25 → sf_cq g 72 g' 26 → g' 0 0 = 0 → g' 0 18 = 2 → Q (some (iq_i 2)) g' l') : iq_P N xs 359 33 [some (iq_r 0)] [] g l Q := by
  refine sf_18 2 e (B359_k2 _ _ ⟨by omega, B87_23_69 _ _ ⟨by omega, by omega, rfl, ?_⟩⟩)
  refine sf_18 2 (by simp [iq_uz, iq_rz]) (B359_j2 _ _ ⟨by omega, B127_26_72 _ _ ⟨by omega, by omega, by omega, by omega, B127_p68_26_72 _ _ ⟨?_, rfl, ?_⟩⟩⟩)
  · simpa [iq_uz, iq_rz] using hb
  · refine sf_un1 2 (by simp [iq_uz, iq_rz]) (q _ _ (fun j i x y => ⟨?_, ?_⟩) ⟨fun i x y => ?_, fun i x y => ?_, ?_, ?_, ?_⟩ ⟨fun i x y => ⟨?_, ?_, ?_, ?_⟩, ?_, ?_⟩ (by simp [iq_uz]) (by simp [iq_uz, iq_rz]))
    · have h1 : ¬ j = 23 := by omega
      have h2 : ¬ j = 24 := by omega
      have h3 : ¬ j = 25 := by omega
      have h4 : ¬ j = 26 := by omega
      have h5 : ¬ j = 27 := by omega
      have h6 : ¬ j = 28 := by omega
      have h7 : ¬ j = 29 := by omega
      have h8 : ¬ j = 30 := by omega
      have h9 : ¬ (j = 0 ∧ i = 0) := by omega
      have hA : ¬ (j = 0 ∧ i = 18) := by omega
      simp [iq_uz, iq_rz, h1, h2, h3, h4, h5, h6, h7, h8, h9, hA]
    · have h1 : ¬ j = 23 := by omega
      simp [iq_uz, h1]
    all_goals simp [iq_uz, iq_rz, iq_cz, *]
theorem cMark {N : Nat} {xs : Nat → Int32} {Q : iq_T} {g : iq_I} {l : iq_J} (hm : 0 ≤ g 0 18 ∧ g 0 18 ≤ 3) (hb : g 26 5 = 0 ∨ g 26 5 = 1) (q1 : ∀ k : Nat, g 0 18 = k → k < 3 → ∀ (g' : iq_I) (l' : iq_J), sf_mo (53 + 8 * k) (60 + 8 * k) g l g' l' → sf_cp g l 23 24 25 g' l' (53 + 8 * k) (54 + 8 * k) (55 + 8 * k) → sf_cq g 26 g' (56 + 8 * k) → g' 0 0 = 0 → g' 0 18 = k + 1 → Q (some (iq_i (k + 1))) g' l') (q0 : ¬ g 0 18 < 3 → Q (some (iq_i (-1))) (iq_uz g 0 0 4) l) : iq_P N xs 356 0 [some (iq_r 0)] [] g l Q := by
  refine B356_0 _ _ ⟨by omega, fun h => by omega, fun _ => ⟨by omega, fun c => ?_, fun c => sp44 ⟨_, rfl, q0 (by omega)⟩⟩⟩
  have e : g 0 18 = 0 ∨ g 0 18 = 1 ∨ g 0 18 = 2 := by omega
  rcases e with e | e | e
  · exact cMark_0 e hb (q1 0 e (by omega))
  · exact cMark_1 e hb (q1 1 e (by omega))
  · exact cMark_2 e hb (q1 2 e (by omega))
theorem cUndo {N : Nat} {xs : Nat → Int32} {Q : iq_T} {g : iq_I} {l : iq_J} (hm : 0 ≤ g 0 18 ∧ g 0 18 ≤ 3) (hb : ∀ k : Nat, (k : Int) < g 0 18 → g (56 + 8 * k) 5 = 0 ∨ g (56 + 8 * k) 5 = 1) (q1 : ∀ k : Nat, g 0 18 = k + 1 → k < 3 → ∀ (g' : iq_I) (l' : iq_J), sf_mo 23 30 g l g' l' → sf_cp g l (53 + 8 * k) (54 + 8 * k) (55 + 8 * k) g' l' 23 24 25 → sf_cq g (56 + 8 * k) g' 26 → g' 0 0 = 0 → g' 0 18 = k → Q (some (iq_i k)) g' l') (q0 : ¬ 0 < g 0 18 → Q (some (iq_i (-1))) (iq_uz g 0 0 6) l) : iq_P N xs 359 0 [some (iq_r 0)] [] g l Q := by
  refine B359_0 _ _ ⟨by omega, fun h => sp44 ⟨_, rfl, q0 (by omega)⟩, fun _ => ⟨by omega, fun c => ?_, fun c => by omega⟩⟩
  have mo : ∀ {a b : Nat} {v : Int} {g' : iq_I} {l' : iq_J}, sf_mo a b (iq_uz g 0 18 v) l g' l' → sf_mo a b g l g' l' := by
    intro a b v g' l' h j i x y
    have z := h j i x y
    rw [show (iq_uz g 0 18 v) j i = g j i by unfold iq_uz; rw [if_neg (fun w => y ⟨w.1, .inr w.2⟩)]] at z
    exact z
  have e : g 0 18 = 1 ∨ g 0 18 = 2 ∨ g 0 18 = 3 := by omega
  rcases e with e | e | e
  · refine cUndo_0 (by rw [e]; simp [iq_uz]) (by have := hb 0 (by omega); simpa [iq_uz] using this) (fun g' l' a b c d f => q1 0 e (by omega) g' l' (mo a) b c d f)
  · refine cUndo_1 (by rw [e]; simp [iq_uz]) (by have := hb 1 (by omega); simpa [iq_uz] using this) (fun g' l' a b c d f => q1 1 e (by omega) g' l' (mo a) b c d f)
  · refine cUndo_2 (by rw [e]; simp [iq_uz]) (by have := hb 2 (by omega); simpa [iq_uz] using this) (fun g' l' a b c d f => q1 2 e (by omega) g' l' (mo a) b c d f)
