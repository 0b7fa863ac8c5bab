/-! scale in the model: to its end. -/
/-- all but scratch, at the end of a text -/
def sf_ZK (g0 g' : iq_I) : Prop := (∀ j, ¬ j = 77 → ¬ j = 78 → ¬ (85 ≤ j ∧ j ≤ 88) → g' j = g0 j) ∧ (∀ k, ¬ k = 1 → ¬ (11 ≤ k ∧ k ≤ 18) → ¬ k = 26 → ¬ k = 27 → g' 77 k = g0 77 k)
theorem sf_sndR (A : Int → Int) (n : Int) (f : Nat) : ∀ (p r : Int) (S : Int64), 0 ≤ (sf_snd A n f p r S).1 ∧ (sf_snd A n f p r S).1 ≤ 5 := by
  induction f with
  | zero => intro p r S; rw [sf_snd]; exact ⟨by simp, by simp⟩
  | succ f ih =>
    intro p r S
    rw [sf_snd]
    split
    · exact ⟨by simp, by simp⟩
    split
    · exact ⟨by simp, by simp⟩
    split
    · exact ⟨by simp, by simp⟩
    split
    · exact ⟨by simp, by simp⟩
    split
    · exact ⟨by simp, by simp⟩
    exact ih _ _ _
theorem sf_prsR (A : Int → Int) (n : Int) (f : Nat) : ∀ (p : Int) (P : Int → Int) (S tl : Int64), 0 ≤ (sf_prs A n f p P S tl).1 ∧ (sf_prs A n f p P S tl).1 ≤ 5 := by
  induction f with
  | zero => intro p P S tl; rw [sf_prs]; exact ⟨by simp, by simp⟩
  | succ f ih =>
    intro p P S tl
    rw [sf_prs]
    split
    · exact ⟨by simp, by simp⟩
    split
    · exact ⟨by simp, by simp⟩
    split
    · exact ⟨by simp, by simp⟩
    split
    · exact ⟨by simp, by simp⟩
    split
    · split
      · exact ih _ _ _ _
      · exact sf_sndR A n 901 _ _ _
    split
    · split
      · exact ih _ _ _ _
      · have := sf_semR A n (sf_te A n (sf_te A n p)); exact ⟨this.1, by simp only; omega⟩
    · have := sf_numR A n (sf_te A n p) (sf_lo (sf_kp A n p)) (sf_hi (sf_kp A n p) (P 1)); exact ⟨this.1, by simp only; omega⟩
section UH
variable {N : Nat} {xs : Nat → Int32} {Q : iq_T} {g0 g : iq_I} {l : iq_J} {A : Int → Int} {n v1 v2 : Int}
def sf_K117 (N : Nat) (xs : Nat → Int32) (Q : iq_T) (v1 v2 : Int) : Option iq_V → iq_I → iq_J → Prop := fun r g1 l2 => r = none ∧ ((-2147483648 ≤ (g1 77 17) ∧ (g1 77 17) ≤ 2147483647) ∧ (¬ (g1 77 17) = (0 : Int) → (iq_P N xs 114 0 [some (iq_r 77)] [] g1 l2 (fun r g3 l4 => r = none ∧ (iq_P N xs 116 0 [some (iq_r 77), some (iq_i (g3 77 26))] [] g3 l4 (fun r g5 l6 => ∃ z7, r = some (iq_i z7) ∧ (Q (some (iq_i z7)) g5 l6)))))) ∧ ((g1 77 17) = (0 : Int) → (iq_P N xs 117 66 [some (iq_r 77), some (iq_i v1), some (iq_i v2), some (iq_i 0)] [] g1 l2 Q)))
theorem sf_finF {P : Int → Int} {k : Int} (hK : sf_NK g0 g) (hP : sf_rv P) (hp : ∀ k, 0 ≤ k → k < 9 → g 78 (1840 + k) = P k) (h17 : g 77 17 = k) (hk : 0 < k ∧ k ≤ 100) (h0 : iq_pb (g0 78)) (q : ∀ g' : iq_I, sf_ZK g0 g' → (∀ i, i < 1840 → g' 78 i = g0 78 i) → g' 77 15 = k → g' 77 16 = g 77 16 → g' 77 1 = 9 → Q (some (iq_i (-1))) g' l) : iq_P N xs 110 0 [some (iq_r 77), some (iq_i 1840), none] [] g l (sf_K117 N xs Q v1 v2) := by
  refine sp110 (off := 1840) (by omega) hP hp (fun g1 a1 a2 a3 => ⟨rfl, ?_⟩)
  rw [a1 77 (by decide), h17]
  refine ⟨by omega, fun _ => ?_, fun h => by omega⟩
  have e78 : ∀ i, i < 1840 → g1 78 i = g0 78 i := fun i hi => by rw [a2 i (by omega)]; exact hK.2.2 i (by omega) (by omega) (by omega)
  refine sp114 (iq_pb_congr (fun k y1 y2 => e78 k (by omega)) h0) (fun g2 b1 b2 b3 b4 b5 => ⟨rfl, ?_⟩)
  have e17 : g2 77 17 = k := by rw [b2 17 (by decide) (by decide), a1 77 (by decide)]; exact h17
  refine B116_77 _ _ _ ?_
  rw [e17]
  refine ⟨by omega, fun h => by omega, fun _ => sp98 ⟨_, rfl, _, rfl, q _ ⟨fun j y1 y2 y3 => ?_, fun i y1 y2 y3 y4 => ?_⟩ (fun i hi => ?_) (by simp [iq_uz]) ?_ (by simp [iq_uz])⟩⟩
  · rw [sf_uzn _ y1, sf_uzn _ y1, b1 j y1 (by omega), a1 j y2]; exact hK.1 j y1 y2
  · have z : ¬ i = 15 := by omega
    rw [show (iq_uz (iq_uz g2 77 15 k) 77 1 9) 77 i = g2 77 i by simp [iq_uz, y1, z], b2 i y3 y4, a1 77 (by decide)]
    exact hK.2.1 i (by omega) (by omega)
  · rw [sf_uzn _ (by decide), sf_uzn _ (by decide), b1 78 (by decide) (by omega)]; exact e78 i hi
  · rw [show (iq_uz (iq_uz g2 77 15 k) 77 1 9) 77 16 = g2 77 16 by simp [iq_uz], b2 16 (by decide) (by decide), a1 77 (by decide)]
theorem sp117_c (q : ∀ g' : iq_I, (∀ j, ¬ j = 78 → g' j = g j) → (∀ k, 0 ≤ k → k < 460 → g' 78 k = g 78 (1840 + k)) → (∀ k, ¬ (0 ≤ k ∧ k < 460) → g' 78 k = g 78 k) → iq_P N xs 114 0 [some (iq_r 77)] [] g' l (fun r g1 l2 => r = none ∧ (iq_P N xs 116 0 [some (iq_r 77), some (iq_i (g1 77 26))] [] g1 l2 (fun r g3 l4 => ∃ z5, r = some (iq_i z5) ∧ (Q (some (iq_i z5)) g3 l4))))) (f : Nat) : ∀ (v : Nat) (G : iq_I), v + f = 460 → (∀ j, ¬ j = 78 → G j = g j) → (∀ k : Int, 0 ≤ k → k < v → G 78 k = g 78 (1840 + k)) → (∀ k : Int, ¬ (0 ≤ k ∧ k < v) → G 78 k = g 78 k) → iq_P N xs 117 66 [some (iq_r 77), some (iq_i v1), some (iq_i v2), some (iq_i v)] [] G l Q := by
  induction f with
  | zero =>
    intro v G hv b1 b2 b3
    exact B117_p66_77 _ _ _ _ _ ⟨by omega, fun _ => q G b1 (fun k y1 y2 => b2 k y1 (by omega)) (fun k y => b3 k (by omega)), fun h => by omega⟩
  | succ f ih =>
    intro v G hv b1 b2 b3
    refine B117_p66_77 _ _ _ _ _ ⟨by omega, fun h => by omega, fun _ => ⟨by omega, by omega, ?_⟩⟩
    rw [show ((v : Nat) : Int) + 1 = ((v + 1 : Nat) : Int) by omega, b3 (1840 + v) (by omega)]
    refine ih (v + 1) _ (by omega) (fun j y => by rw [sf_uzn _ y]; exact b1 j y) (fun k y1 y2 => ?_) (fun k y => ?_)
    · by_cases c : k = v
      · rw [c]; simp [iq_uz]
      · rw [iq_uz78 c]; exact b2 k y1 (by omega)
    · rw [iq_uz78 (by omega)]; exact b3 k (by omega)
theorem sf_fin0 {P : Int → Int} {S : Int64} (hK : sf_NK g0 g) (hP : sf_rv P) (hp : sf_NP g P S) (h17 : g 77 17 = 0) (h9 : g 78 1849 = 0) (q : ∀ g' : iq_I, sf_ZK g0 g' → (∀ R : Int → Int, iq_MS g' 0 (sf_fold P) S 0 R) → g' 78 10 = g 78 1850 → (∀ i, ¬ (0 ≤ i ∧ i < 460) → i < 1840 → g' 78 i = g0 78 i) → g' 77 15 = 0 → g' 77 16 = g 77 16 → g' 77 1 = 0 → Q (some (iq_i (iq_m (sf_fold P)))) g' l) : iq_P N xs 110 0 [some (iq_r 77), some (iq_i 1840), none] [] g l (sf_K117 N xs Q v1 v2) := by
  refine sp110 (off := 1840) (by omega) hP hp.1 (fun g1 a1 a2 a3 => ⟨rfl, ?_⟩)
  rw [a1 77 (by decide), h17]
  refine ⟨by omega, fun h => absurd rfl h, fun _ => ?_⟩
  refine sp117_c (g := g1) (fun g2 c1 c2 c3 => ?_) 460 0 g1 (by omega) (fun _ _ => rfl) (fun k y1 y2 => by omega) (fun _ _ => rfl)
  have ep : ∀ k, 0 ≤ k → k < 9 → g2 78 k = sf_fold P k := fun k y1 y2 => by rw [c2 k y1 (by omega)]; exact a3 k y1 y2
  have pb := iq_pb_congr ep (sf_foldb hP)
  refine sp114 pb (fun g3 b1 b2 b3 b4 b5 => ⟨rfl, ?_⟩)
  have e17 : g3 77 17 = 0 := by rw [b2 17 (by decide) (by decide), c1 77 (by decide), a1 77 (by decide)]; exact h17
  have e26 : g3 77 26 = iq_m (sf_fold P) := by
    rw [b3.1]
    unfold iq_m
    rw [← iq_f_congr ep, ← ep 1 (by omega) (by omega)]
    rfl
  have f78 : g3 78 = g2 78 := b1 78 (by decide) (by omega)
  refine B116_77 _ _ _ ?_
  rw [e17, e26]
  refine ⟨by omega, fun _ => sp115 ⟨_, rfl, _, rfl, q _ ⟨fun j y1 y2 y3 => ?_, fun i y1 y2 y3 y4 => ?_⟩ (fun R => .mk0 (fun k y1 y2 => ?_) (fun t y1 y2 => ?_) ?_ (fun k y1 y2 => by omega)) ?_ (fun i y1 y2 => ?_) (by simp [iq_uz]) ?_ (by simp [iq_uz])⟩, fun h => by omega⟩
  · rw [sf_uzn _ y1, sf_uzn _ y1, b1 j y1 (by omega), c1 j y2, a1 j y2]; exact hK.1 j y1 y2
  · have z : ¬ i = 15 := by omega
    rw [show (iq_uz (iq_uz g3 77 15 0) 77 1 0) 77 i = g3 77 i by simp [iq_uz, y1, z], b2 i y3 y4, c1 77 (by decide), a1 77 (by decide)]
    exact hK.2.1 i (by omega) (by omega)
  · rw [sf_uzn _ (by decide), sf_uzn _ (by decide), f78]; exact ep k y1 y2
  · rw [sf_uzn _ (by decide), sf_uzn _ (by decide), f78, c2 _ (by omega) (by omega), a2 _ (by omega), show 1840 + (20 + t) = 1860 + t by omega]
    exact hp.2 t y1 y2
  · rw [sf_uzn _ (by decide), sf_uzn _ (by decide), f78, c2 9 (by omega) (by omega), a2 _ (by omega)]
    exact h9
  · rw [sf_uzn _ (by decide), sf_uzn _ (by decide), f78, c2 10 (by omega) (by omega), a2 _ (by omega)]
    rfl
  · rw [sf_uzn _ (by decide), sf_uzn _ (by decide), f78, c3 i (by omega), a2 i (by omega)]
    exact hK.2.2 i (by omega) (by omega) (by omega)
  · rw [show (iq_uz (iq_uz g3 77 15 0) 77 1 0) 77 16 = g3 77 16 by simp [iq_uz], b2 16 (by decide) (by decide), c1 77 (by decide), a1 77 (by decide)]
theorem sp117_p (f : Nat) : ∀ (g : iq_I) (p : Int) (P : Int → Int) (S tl : Int64), sf_NS g0 g A n p P S tl → (0 ≤ p ∧ p ≤ n) → n - p < f → sf_rv P → (∀ t, iq_tb S t = true → t < P 1) → (iq_tb tl 9 = false → ∀ t, iq_tb S t = false) → ((sf_prs A n f p P S tl).1 = 0 → ∀ (g' : iq_I) (v2 : Int), sf_NK g0 g' → sf_NP g' (sf_prs A n f p P S tl).2.2.1 (sf_prs A n f p P S tl).2.2.2 → sf_rv (sf_prs A n f p P S tl).2.2.1 → g' 77 17 = 0 → g' 77 16 = -1 → iq_P N xs 110 0 [some (iq_r 77), some (iq_i 1840), none] [] g' l (sf_K117 N xs Q v1 v2)) → (¬ (sf_prs A n f p P S tl).1 = 0 → ∀ (g' : iq_I) (P' : Int → Int) (v2 : Int), sf_NK g0 g' → sf_rv P' → (∀ k, 0 ≤ k → k < 9 → g' 78 (1840 + k) = P' k) → g' 77 17 = (sf_prs A n f p P S tl).1 → g' 77 16 = (sf_prs A n f p P S tl).2.1 → iq_P N xs 110 0 [some (iq_r 77), some (iq_i 1840), none] [] g' l (sf_K117 N xs Q v1 v2)) → iq_P N xs 117 31 [some (iq_r 77), some (iq_i v1), some (iq_i 1), none] [] g l Q := by
  induction f with
  | zero => intro g p P S tl _ hp hf; omega
  | succ f ih =>
    intro g p P S tl hN hp hf hP hS hT q1 q0
    have m0 := sf_mkv A n p (k := 0) (by omega)
    have e0 : sf_mkd 0 = 0 := rfl
    rw [e0] at m0
    have mR : 0 ≤ sf_mkd (sf_tk A n p) ∧ sf_mkd (sf_tk A n p) ≤ 4 := by unfold sf_mkd; have := sf_tkR A n p; omega
    have t1 := hN.2.2.1.1
    refine B117_p31_77 _ _ _ _ ⟨by omega, fun h => by omega, fun _ => ?_⟩
    rw [t1]
    refine ⟨by omega, fun c => ?_, fun c => ?_⟩
    · have k0 := m0.mp c
      rw [sf_prs, if_neg (by omega), if_pos k0] at q1
      exact q1 rfl g 1 hN.1 hN.2.2.2.1 hP hN.2.2.2.2.2.1 hN.2.2.2.2.2.2
    · have k0 : ¬ sf_tk A n p = 0 := fun z => c (m0.mpr z)
      refine sp108 (f := f) hN hp k0 (by omega) hP hS hT (fun g' p' P' S' tl' w1 w2 w3 w4 w5 w6 => ⟨_, rfl, ?_⟩) (fun z g' P' w1 w2 w3 w4 w5 => ⟨_, rfl, ?_⟩)
      · rw [w6] at q1 q0
        exact ih g' p' P' S' tl' w1 (by omega) (by omega) w3 w4 w5 q1 q0
      · refine B117_p31_77 _ _ _ _ ⟨by omega, fun _ => q0 z g' P' 0 w1 w2 w3 w4 w5, fun h => absurd rfl h⟩
end UH
def iq_My : Nat → Int → Bool := fun j k => (decide (j = 78) && decide (0 ≤ k) && decide (k < 460)) || (decide (j = 77) && (decide (k = 9) || decide (k = 15) || decide (k = 16)))
theorem sf_ZK.km {g g1 g' : iq_I} {l : iq_J} (b : sf_BK g g1) (h : sf_ZK g1 g') (e : ∀ i, 460 ≤ i → i < 1840 → g' 78 i = g 78 i) (e0 : ∀ i, i < 0 → g' 78 i = g 78 i) : iq_KM iq_My g l g' l := by
  refine .ofg (fun j k x y => ?_)
  by_cases c7 : j = 77
  · subst c7
    have kk : k = 9 ∨ k = 15 ∨ k = 16 ∨ k = 47 ∨ k = 54 ∨ k = 55 := by
      simp [iq_sx] at x
      omega
    have : k = 47 ∨ k = 54 ∨ k = 55 := by
      rcases kk with e | e | e | e | e | e
      · subst e; simp [iq_My] at y
      · subst e; simp [iq_My] at y
      · subst e; simp [iq_My] at y
      · omega
      · omega
      · omega
    rw [h.2 k (by omega) (by omega) (by omega) (by omega), b.2 k (by omega) (by omega)]
  · by_cases c8 : j = 78
    · subst c8
      have k1 : k < 1840 := by simp [iq_sx] at x; omega
      by_cases c : 460 ≤ k
      · exact e k c k1
      · refine e0 k ?_
        simp [iq_My] at y
        omega
    · have n83 : ¬ j = 83 := fun e => by subst e; simp [iq_sx] at x
      rw [h.1 j c7 c8 (fun e => by
        have : j = 85 ∨ j = 86 ∨ j = 87 ∨ j = 88 := by omega
        rcases this with e | e | e | e <;> subst e <;> simp [iq_sx] at x), b.1 j c7 n83]
theorem mScale {N : Nat} {xs : Nat → Int32} {Q : iq_T} {g : iq_I} {l : iq_J} {A : Int → Int} {a : Int} (h9 : 0 ≤ g 77 9 ∧ g 77 9 ≤ 900) (ha : -2147483648 ≤ a ∧ a ≤ 2147483647) (hA : ∀ k : Int, 0 ≤ k → k < g 77 9 → iq_and (g 82 k) 255 = A k) (hpb : iq_pb (g 78)) (q1 : 0 ≤ a ∧ a ≤ g 77 9 → (sf_tsc A a).1 = 0 → ∀ g' : iq_I, iq_KM iq_My g l g' l → (∀ R : Int → Int, iq_MS g' 0 (sf_fold (sf_tsc A a).2.2.1) (sf_tsc A a).2.2.2 0 R) → g' 78 10 = -1 → g' 77 9 = 0 → g' 77 15 = 0 → g' 77 16 = -1 → g' 0 0 = g 0 0 → g' 77 1 = 0 → Q (some (iq_i (iq_m (sf_fold (sf_tsc A a).2.2.1)))) g' l) (q2 : 0 ≤ a ∧ a ≤ g 77 9 → ¬ (sf_tsc A a).1 = 0 → ∀ g' : iq_I, iq_KM iq_My g l g' l → (∀ i, i < 1840 → g' 78 i = g 78 i) → g' 77 9 = 0 → g' 77 15 = (sf_tsc A a).1 → g' 77 16 = (sf_tsc A a).2.1 → g' 0 0 = g 0 0 → g' 77 1 = 9 → Q (some (iq_i (-1))) g' l) (q0 : ¬ (0 ≤ a ∧ a ≤ g 77 9) → Q (some (iq_i (-1))) (iq_uz g 77 1 1) l) : iq_P N xs 117 0 [some (iq_r 77), some (iq_i a), none, none] [] g l Q := by
  refine B117_77 _ _ _ (sp97 h9 ha (by omega) hA (fun c g1 b1 b2 b3 b4 b5 b6 => ⟨_, rfl, by omega, fun _ => ?_, fun h => by omega⟩) (fun c => ⟨_, rfl, by omega, fun h => absurd rfl h, fun _ => sp98 ⟨_, rfl, q0 (by omega)⟩⟩))
  have hr : 0 ≤ a ∧ a ≤ g 77 9 := by omega
  have q1 := q1 hr
  have q2 := q2 hr
  have hA' := sf_MBA b2
  refine sp19 (fun g2 c1 c2 c3 c4 c5 => ⟨rfl, ?_⟩)
  -- the heap that the parse starts from
  have d7 : ∀ i, ¬ i = 18 → (iq_uz g2 77 18 0) 77 i = g1 77 i := fun i y => by rw [show (iq_uz g2 77 18 0) 77 i = g2 77 i by simp [iq_uz, y], c1 77 (by decide)]
  have d8 : (iq_uz g2 77 18 0) 78 = g2 78 := sf_uzn _ (by decide) _ _
  have dj : ∀ j, ¬ j = 77 → ¬ j = 78 → (iq_uz g2 77 18 0) j = g1 j := fun j y1 y2 => by rw [sf_uzn _ y1, c1 j y2]
  have NS0 : sf_NS (iq_uz g2 77 18 0) (iq_uz g2 77 18 0) A a 0 sf_P0 0 0 := by
    refine ⟨⟨fun _ _ _ => rfl, fun _ _ _ => rfl, fun _ _ _ _ => rfl⟩, ⟨by rw [d7 10 (by decide)]; exact b2.1, b2.2.1, by rw [dj 83 (by decide) (by decide)]; exact b2.2.2⟩, ?_, c3.fk d8, ⟨by simp [iq_uz], fun k y1 y2 => ?_⟩, by rw [d7 17 (by decide)]; exact b5, by rw [d7 16 (by decide)]; exact b6⟩
    · unfold sf_MT1
      rw [d7 11 (by decide), d7 12 (by decide), d7 13 (by decide), d7 14 (by decide)]
      exact b3
    · rw [iq_tb_0, show (iq_uz g2 77 18 0) 77 18 = 0 by simp [iq_uz]]
      unfold sf_bt
      simp
  have g278 : ∀ i, i < 1840 → g2 78 i = g 78 i := fun i hi => by rw [c2 i (by omega), b1.1 78 (by decide) (by decide)]
  have zk : ∀ g' : iq_I, sf_ZK (iq_uz g2 77 18 0) g' → sf_ZK g1 g' := fun g' h => ⟨fun j y1 y2 y3 => by rw [h.1 j y1 y2 y3, dj j y1 y2], fun k y1 y2 y3 y4 => by rw [h.2 k y1 y2 y3 y4, d7 k (by omega)]⟩
  have prs : sf_prs A a 901 0 sf_P0 0 0 = sf_tsc A a := rfl
  refine sp117_p (g0 := iq_uz g2 77 18 0) (A := A) (n := a) 901 _ 0 sf_P0 0 0 NS0 (by omega) (by omega) sf_P0v (fun t ht => by rw [iq_tb_0] at ht; cases ht) (fun _ t => iq_tb_0 t) (fun z g' v2 w1 w2 w3 w4 w5 => ?_) (fun z g' P' v2 w1 w2 w3 w4 w5 => ?_)
  · rw [prs] at z w2 w3
    have e9 : g' 78 1849 = 0 := by rw [w1.2.2 1849 (by omega) (by omega) (by omega), d8]; exact c4
    have e10 : g' 78 1850 = -1 := by rw [w1.2.2 1850 (by omega) (by omega) (by omega), d8]; exact c5
    refine sf_fin0 w1 w3 w2 w4 e9 (fun G y1 y2 y3 y4 y5 y6 y7 => q1 z G (sf_ZK.km b1 (zk G y1) (fun i i1 i2 => by rw [y4 i (by omega) i2, d8]; exact g278 i i2) (fun i hi => by rw [y4 i (by omega) (by omega), d8]; exact g278 i (by omega))) y2 (by rw [y3]; exact e10) ?_ y5 (by rw [y6]; exact w5) ?_ y7)
    · rw [(zk G y1).2 9 (by decide) (by decide) (by decide) (by decide)]; exact b4
    · rw [(zk G y1).1 0 (by decide) (by decide) (by decide), b1.1 0 (by decide) (by decide)]
  · rw [prs] at z w4 w5
    have kR : 0 < (sf_tsc A a).1 ∧ (sf_tsc A a).1 ≤ 100 := by have := sf_prsR A a 901 0 sf_P0 0 0; rw [prs] at this; omega
    refine sf_finF w1 w2 w3 w4 kR (by rw [d8]; exact iq_pb_congr (fun k y1 y2 => g278 k (by omega)) hpb) (fun G y1 y2 y3 y4 y5 => q2 z G (sf_ZK.km b1 (zk G y1) (fun i i1 i2 => by rw [y2 i i2, d8]; exact g278 i i2) (fun i hi => by rw [y2 i (by omega), d8]; exact g278 i (by omega))) (fun i hi => by rw [y2 i hi, d8]; exact g278 i hi) ?_ y3 (by rw [y4]; exact w5) ?_ y5)
    · rw [(zk G y1).2 9 (by decide) (by decide) (by decide) (by decide)]; exact b4
    · rw [(zk G y1).1 0 (by decide) (by decide) (by decide), b1.1 0 (by decide) (by decide)]
