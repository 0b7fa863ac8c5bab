/-! The law's cases: mark and undo. -/
theorem sf_SRcp {g g' : iq_I} {l l' : iq_J} {s p r s' p' r' : Nat} {off off' : Int} (h : iq_SR g l s p r off) (c : sf_cp g l s p r g' l' s' p' r') (e : ∀ i : Int, 0 ≤ i → i < 92 → g' 78 (off' + i) = g 78 (off + i)) : iq_SR g' l' s' p' r' off' := by
  have z := h.cz
  have y := h.ms
  have m12 := z.1.2.2.1
  refine iq_SR.of (P := g p) (S := l s 3) (m := g s 2) (R := g r) ⟨z.1, fun k a b => c.1 k a b, c.2.2.2.1, fun t => by rw [c.2.2.2.2]; exact z.2.2.2.1 t, c.2.2.1, fun k a b => c.2.1 k a (by omega)⟩ ⟨fun k a b => by rw [e k a (by omega)]; exact y.1 k a b, fun t a b => ?_, by rw [e 9 (by omega) (by omega)]; exact y.2.2.1, fun k a b => ?_⟩
  · rw [show off' + 20 + t = off' + (20 + t) by omega, e _ (by omega) (by omega), show off + (20 + t) = off + 20 + t by omega]; exact y.2.1 t a b
  · rw [show off' + 80 + k = off' + (80 + k) by omega, e _ (by omega) (by omega), show off + (80 + k) = off + 80 + k by omega]; exact y.2.2.2 k a b
theorem sf_SJcp {g g' : iq_I} {b b' : Nat} {off off' : Int} (h : sf_SJ g b off) (c : sf_cq g b g' b') (e : ∀ i : Int, 0 ≤ i → i < 460 → g' 78 (off' + i) = g 78 (off + i)) : sf_SJ g' b' off' := by
  unfold sf_SJ at h ⊢
  obtain ⟨c1, c2, c3⟩ := c
  rw [c2, c3, e 10 (by omega) (by omega)]
  refine ⟨h.1, h.2.1, fun z => ?_⟩
  obtain ⟨m, y1, y2, y3⟩ := h.2.2 z
  have m60 := y2.1
  have n30 := y3.1
  refine ⟨m, y1, (y2.dc (fun i i1 i2 => ?_)).kc (fun j a b => c1 j a (by omega)), y3.kc (fun j a b => c1 j a (by omega))⟩
  show g' 78 (off' + 92 + i) = g 78 (off + 92 + i)
  rw [show off' + 92 + i = off' + (92 + i) by omega, e _ (by omega) (by omega), show off + (92 + i) = off + 92 + i by omega]
theorem sf_L65 {N : Nat} {xs : Nat → Int32} {Q : iq_T} {g : iq_I} {l : iq_J} {v3 : Int} (h : sf_INV g l) (hv : 0 ≤ v3 ∧ v3 + 5 < N ∧ (N : Int) ≤ 3072) (q : ∀ (g' : iq_I) (l' : iq_J), sf_INV g' l' → iq_P N xs 361 1940 [some (iq_r 1000000), some (iq_r 0), some (iq_r 77), some (iq_i v3)] [] g' l' Q) : iq_P N xs 361 1914 [some (iq_r 1000000), some (iq_r 0), some (iq_r 77), some (iq_i v3)] [] g l Q := by
  have i := h.1
  have mk := i.mks
  refine B361_c65 _ _ _ (iq_Pw (cMark mk.1.2 i.2.1.1 (fun k ek k3 g1 l1 mo cp cq e1 e18 => ⟨_, rfl, ?_⟩) (fun a => ⟨_, rfl, ?_⟩)))
  · have o55 : g1 77 55 = k := by rw [(mo 77 55 (by omega) (by omega)).1, ← mk.1.1, ek]
    refine B361_d65 _ _ _ _ (iq_Pw (mMark (by rw [o55]; omega) (fun _ g2 y1 y2 y3 y4 y5 => ⟨_, rfl, sf_cl (by rw [o55]) (q g2 l1 ?_)⟩) (fun a2 => absurd (by rw [o55]; omega) a2)))
    rw [o55] at y3 y4
    have y8 : ∀ x : Int, g2 78 x = if 460 * ((k : Int) + 1) ≤ x ∧ x < 460 * ((k : Int) + 1) + 460 then g1 78 (460 * 0 + (x - 460 * ((k : Int) + 1))) else g1 78 x := fun x => by rw [y4]; rfl
    have e : ∀ (j : Nat) (x : Int), sf_kc j x → ¬ (53 + 8 * k ≤ j ∧ j ≤ 60 + 8 * k) → ¬ (j = 0 ∧ x = 18) → ¬ (j = 77 ∧ x = 55) → ¬ (j = 78 ∧ 460 * ((k : Int) + 1) ≤ x ∧ x < 460 * ((k : Int) + 1) + 460) → sf_ag g l g2 l1 j x := fun j x z d1 d2 d3 d4 => by
      have w := sf_kcn z
      clear z
      have m1 := mo j x d1 (by omega)
      refine ⟨?_, m1.2⟩
      rw [← m1.1]
      by_cases c8 : j = 78
      · rw [c8, y8, if_neg (by omega)]
      · by_cases c7 : j = 77
        · rw [c7, y2 x (by omega) (by omega)]
        · rw [y1 j c8 c7]
    have g78 : ∀ x, g1 78 x = g 78 x := fun x => (mo 78 x (by omega) (by omega)).1
    refine ⟨.of (sf_kA i.1 (fun j x z => e j x (sf_kcA z) (by omega) (by omega) (by omega) (by omega))) (sf_kB i.2.1 (fun j x z => e j x (sf_kcB z) (by omega) (by omega) (by omega) (by omega))) ⟨?_, fun u hu => ?_⟩ (sf_kE i.tr (fun j x z => e j x (sf_kcE z) (by omega) (by omega) (by omega) (by omega))) (sf_kF i.tp (fun j x z => e j x (sf_kcF z) (by omega) (by omega) (by omega) (by omega))) (sf_kG i.ft (fun j x z => e j x (sf_kcG z) (by omega) (by omega) (by omega) (by omega))) (sf_kH i.lf (fun j x z => e j x (sf_kcH z) (by omega) (by omega) (by omega) (by omega))), ?_, ?_, ?_⟩
    · rw [y1 0 (by omega) (by omega), e18, y3]; omega
    · rw [y1 0 (by omega) (by omega), e18] at hu
      by_cases hc : u = k
      · subst hc
        have f : ∀ x : Int, 0 ≤ x → x < 460 → g2 78 (460 * ((u : Int) + 1) + x) = g 78 (0 + x) := fun x a b => by
          rw [y8, if_pos (by omega), g78, show 460 * 0 + (460 * ((u : Int) + 1) + x - 460 * ((u : Int) + 1)) = 0 + x by omega]
        have r : ∀ j : Nat, ¬ j = 78 → ¬ j = 77 → g2 j = g1 j := fun j a b => y1 j a b
        refine ⟨sf_SRcp i.1 ?_ (fun x a b => f x a (by omega)), sf_SJcp i.2.1 ?_ f⟩
        · unfold sf_cp
          rw [r (54 + 8 * u) (by omega) (by omega), r (55 + 8 * u) (by omega) (by omega), r (53 + 8 * u) (by omega) (by omega)]
          exact cp
        · unfold sf_cq
          rw [r (56 + 8 * u) (by omega) (by omega), r (56 + 8 * u + 1) (by omega) (by omega), r (56 + 8 * u + 2) (by omega) (by omega), r (56 + 8 * u + 3) (by omega) (by omega), r (56 + 8 * u + 4) (by omega) (by omega)]
          exact cq
      · have z := mk.2 u (by omega)
        have w : ∀ j : Nat, 53 + 8 * u ≤ j → j ≤ 60 + 8 * u → g2 j = g j ∧ l1 j = l j := fun j a b => ⟨funext (fun x => (e j x (sf_kcC (.inl ⟨by omega, by omega⟩)) (by omega) (by omega) (by omega) (by omega)).1), funext (fun x => (e j x (sf_kcC (.inl ⟨by omega, by omega⟩)) (by omega) (by omega) (by omega) (by omega)).2)⟩
        have f : ∀ x : Int, 0 ≤ x → x < 460 → g2 78 (460 * ((u : Int) + 1) + x) = g 78 (460 * ((u : Int) + 1) + x) := fun x a b => (e 78 _ (sf_kcC (.inr (.inl ⟨rfl, by omega, by omega⟩))) (by omega) (by omega) (by omega) (by omega)).1
        exact ⟨sf_SRc z.1 f (w _ (by omega) (by omega)) (w _ (by omega) (by omega)).1 (w _ (by omega) (by omega)).1, z.2.c f (fun j a b => (w j (by omega) (by omega)).1)⟩
    · rw [y1 0 (by omega) (by omega), e1, y5]
    · rw [(mo 0 1 (by omega) (by omega)).2, (mo 77 2 (by omega) (by omega)).2]; exact h.2.2.1
    · rw [(mo 0 2 (by omega) (by omega)).2, (mo 77 3 (by omega) (by omega)).2]; exact h.2.2.2
  · have o5 : (iq_uz g 0 0 4) 77 55 = g 0 18 := by rw [mk.1.1]; simp [iq_uz]
    exact B361_d65 _ _ _ _ (iq_Pw (mMark (by rw [o5]; exact mk.1.2) (fun a2 => absurd (by rw [← o5]; exact a2) a) (fun _ => ⟨_, rfl, sf_cl rfl (q _ _ (h.uu _ rfl))⟩)))
theorem sf_L66 {N : Nat} {xs : Nat → Int32} {Q : iq_T} {g : iq_I} {l : iq_J} {v3 : Int} (h : sf_INV g l) (hv : 0 ≤ v3 ∧ v3 + 5 < N ∧ (N : Int) ≤ 3072) (q : ∀ (g' : iq_I) (l' : iq_J), sf_INV g' l' → iq_P N xs 361 1940 [some (iq_r 1000000), some (iq_r 0), some (iq_r 77), some (iq_i v3)] [] g' l' Q) : iq_P N xs 361 1927 [some (iq_r 1000000), some (iq_r 0), some (iq_r 77), some (iq_i v3)] [] g l Q := by
  have i := h.1
  have mk := i.mks
  refine B361_c66 _ _ _ (iq_Pw (cUndo mk.1.2 (fun k hk => (mk.2 k hk).2.1) (fun k ek k3 g1 l1 mo cp cq e1 e18 => ⟨_, rfl, ?_⟩) (fun a => ⟨_, rfl, ?_⟩)))
  · have o55 : g1 77 55 = k + 1 := by rw [(mo 77 55 (by omega) (by omega)).1, ← mk.1.1, ek]
    have zk := mk.2 k (by omega)
    refine B361_d66 _ _ _ _ (iq_Pw (mUndo (by rw [o55]; omega) (fun _ g2 y1 y2 y3 y4 y5 => ⟨_, rfl, sf_cl (by rw [o55]; omega) (q g2 l1 ?_)⟩) (fun a2 => absurd (by rw [o55]; omega) a2)))
    rw [o55] at y3 y4
    have y8 : ∀ x : Int, g2 78 x = if 460 * 0 ≤ x ∧ x < 460 * 0 + 460 then g1 78 (460 * ((k : Int) + 1) + (x - 460 * 0)) else g1 78 x := fun x => by rw [y4]; rfl
    have e : ∀ (j : Nat) (x : Int), sf_kc j x → ¬ (23 ≤ j ∧ j ≤ 30) → ¬ (j = 0 ∧ x = 18) → ¬ (j = 77 ∧ x = 55) → ¬ (j = 78 ∧ 0 ≤ x ∧ x < 460) → sf_ag g l g2 l1 j x := fun j x z d1 d2 d3 d4 => by
      have w := sf_kcn z
      clear z
      have m1 := mo j x d1 (by omega)
      refine ⟨?_, m1.2⟩
      rw [← m1.1]
      by_cases c8 : j = 78
      · rw [c8, y8, if_neg (by omega)]
      · by_cases c7 : j = 77
        · rw [c7, y2 x (by omega) (by omega)]
        · rw [y1 j c8 c7]
    have g78 : ∀ x, g1 78 x = g 78 x := fun x => (mo 78 x (by omega) (by omega)).1
    have f : ∀ x : Int, 0 ≤ x → x < 460 → g2 78 (0 + x) = g 78 (460 * ((k : Int) + 1) + x) := fun x a b => by
      rw [y8, if_pos (by omega), g78, show 460 * ((k : Int) + 1) + (0 + x - 460 * 0) = 460 * ((k : Int) + 1) + x by omega]
    have r : ∀ j : Nat, ¬ j = 78 → ¬ j = 77 → g2 j = g1 j := fun j a b => y1 j a b
    refine ⟨.of (sf_SRcp zk.1 ?_ (fun x a b => f x a (by omega))) (sf_SJcp zk.2 ?_ f) ⟨?_, fun u hu => ?_⟩ (sf_kE i.tr (fun j x z => e j x (sf_kcE z) (by omega) (by omega) (by omega) (by omega))) (sf_kF i.tp (fun j x z => e j x (sf_kcF z) (by omega) (by omega) (by omega) (by omega))) (sf_kG i.ft (fun j x z => e j x (sf_kcG z) (by omega) (by omega) (by omega) (by omega))) (sf_kH i.lf (fun j x z => e j x (sf_kcH z) (by omega) (by omega) (by omega) (by omega))), ?_, ?_, ?_⟩
    · unfold sf_cp
      rw [r 24 (by omega) (by omega), r 25 (by omega) (by omega), r 23 (by omega) (by omega)]
      exact cp
    · unfold sf_cq
      rw [r 26 (by omega) (by omega), r (26 + 1) (by omega) (by omega), r (26 + 2) (by omega) (by omega), r (26 + 3) (by omega) (by omega), r (26 + 4) (by omega) (by omega)]
      exact cq
    · rw [y1 0 (by omega) (by omega), e18, y3]; omega
    · rw [y1 0 (by omega) (by omega), e18] at hu
      have z := mk.2 u (by omega)
      have w : ∀ j : Nat, 53 + 8 * u ≤ j → j ≤ 60 + 8 * u → g2 j = g j ∧ l1 j = l j := fun j a b => ⟨funext (fun x => (e j x (sf_kcC (.inl ⟨by omega, by omega⟩)) (by omega) (by omega) (by omega) (by omega)).1), funext (fun x => (e j x (sf_kcC (.inl ⟨by omega, by omega⟩)) (by omega) (by omega) (by omega) (by omega)).2)⟩
      have f2 : ∀ x : Int, 0 ≤ x → x < 460 → g2 78 (460 * ((u : Int) + 1) + x) = g 78 (460 * ((u : Int) + 1) + x) := fun x a b => (e 78 _ (sf_kcC (.inr (.inl ⟨rfl, by omega, by omega⟩))) (by omega) (by omega) (by omega) (by omega)).1
      exact ⟨sf_SRc z.1 f2 (w _ (by omega) (by omega)) (w _ (by omega) (by omega)).1 (w _ (by omega) (by omega)).1, z.2.c f2 (fun j a b => (w j (by omega) (by omega)).1)⟩
    · rw [y1 0 (by omega) (by omega), e1, y5]
    · rw [(mo 0 1 (by omega) (by omega)).2, (mo 77 2 (by omega) (by omega)).2]; exact h.2.2.1
    · rw [(mo 0 2 (by omega) (by omega)).2, (mo 77 3 (by omega) (by omega)).2]; exact h.2.2.2
  · have o5 : (iq_uz g 0 0 6) 77 55 = g 0 18 := by rw [mk.1.1]; simp [iq_uz]
    exact B361_d66 _ _ _ _ (iq_Pw (mUndo (by rw [o5]; exact mk.1.2) (fun a2 => absurd (by rw [← o5]; exact a2) a) (fun _ => ⟨_, rfl, sf_cl rfl (q _ _ (h.uu _ rfl))⟩)))
