/-! studies in the model. -/
theorem sf_sfR (A : Int → Int) (n p : Int) (d c : Nat) : 0 ≤ (sf_sf A n p d c).1 ∧ (sf_sf A n p d c).1 ≤ 7 := by
  have a : 0 ≤ sf_hf A n p d c ∧ sf_hf A n p d c ≤ 7 := by
    unfold sf_hf
    repeat (split; omega)
    omega
  have b : 0 ≤ sf_qf A n (sf_te A n p) ∧ sf_qf A n (sf_te A n p) ≤ 2 := by
    unfold sf_qf
    split
    · split <;> omega
    split
    · split
      · omega
      split <;> omega
    · omega
  have e := sf_numR A n (sf_np A n p) (sf_l2 (sf_kp A n p)) (sf_h2 A n p)
  have f := sf_semR A n (sf_sq A n p)
  unfold sf_sf
  split
  · exact a
  split
  · exact ⟨b.1, by show sf_qf A n (sf_te A n p) ≤ 7; omega⟩
  split
  · exact ⟨e.1, by show sf_num A n (sf_np A n p) (sf_l2 (sf_kp A n p)) (sf_h2 A n p) ≤ 7; omega⟩
  · exact ⟨f.1, by show sf_sem A n (sf_sq A n p) ≤ 7; omega⟩
theorem sf_stuR (A : Int → Int) (n : Int) (f : Nat) : ∀ (p : Int) (D : Int → Int) (m : Nat), 0 ≤ (sf_stu A n f p D m).1 ∧ (sf_stu A n f p D m).1 ≤ 7 := by
  induction f with
  | zero => intro p D m; rw [sf_stu]; exact ⟨by simp, by simp⟩
  | succ f ih =>
    intro p D m
    rw [sf_stu]
    split
    · exact ⟨by simp, by simp⟩
    split
    · split
      · exact ⟨by simp, by simp⟩
      · exact ⟨by simp, by simp⟩
    split
    · exact ih _ _ _
    · exact sf_sfR A n p _ _
section UU
variable {N : Nat} {xs : Nat → Int32} {Q : iq_T} {g0 g : iq_I} {l : iq_J} {A : Int → Int} {n v1 : Int}
theorem sp132_p (f : Nat) : ∀ (g : iq_I) (p : Int) (D : Int → Int) (m : Nat), sf_TS g0 g A n p D m → (0 ≤ p ∧ p ≤ n) → n - p < f → ((sf_stu A n f p D m).1 = 0 → ∀ (x : Int) (g' : iq_I), sf_TS g0 g' A n x (sf_stu A n f p D m).2.2.1 (sf_stu A n f p D m).2.2.2 → sf_E (sf_stu A n f p D m).2.2.1 (sf_stu A n f p D m).2.2.2 = [] → iq_P N xs 132 102 [some (iq_r 77), some (iq_i v1), some (iq_i 1), some (iq_i 92)] [] (iq_uz g' 78 10 (g' 78 1850)) l Q) → (¬ (sf_stu A n f p D m).1 = 0 → ∀ g' : iq_I, sf_TK g0 g' → g' 77 17 = (sf_stu A n f p D m).1 → g' 77 16 = (sf_stu A n f p D m).2.1 → iq_P N xs 116 0 [some (iq_r 77), some (iq_i (g' 77 21))] [] g' l (fun r g1 l2 => ∃ z3, r = some (iq_i z3) ∧ (Q (some (iq_i z3)) g1 l2))) → iq_P N xs 132 38 [some (iq_r 77), some (iq_i v1), some (iq_i 1), none] [] g l Q := by
  induction f with
  | zero => intro g p D m _ hp hf; omega
  | succ f ih =>
    intro g p D m hS hp hf q1 q0
    have m0 := sf_mkv A n p (k := 0) (by omega)
    have e0 : sf_mkd 0 = 0 := rfl
    rw [e0] at m0
    have mR : 0 ≤ sf_mkd (sf_tk A n p) ∧ sf_mkd (sf_tk A n p) ≤ 4 := by unfold sf_mkd; have := sf_tkR A n p; omega
    have t1 := hS.2.2.1.1
    have d20 : g 77 20 = (sf_E D m).length := hS.2.2.2.1.2.1
    have h17 : g 77 17 = 0 := hS.2.2.2.2.2.2.2.1
    have dR := hS.2.2.2.2.2.2.1.2.2.1
    refine B132_p38_77 _ _ _ _ ?_
    refine ⟨by omega, fun h => by omega, fun _ => ?_⟩
    rw [t1]
    refine ⟨by omega, fun c => ?_, fun c => ?_⟩
    · have k0 := m0.mp c
      rw [h17, d20]
      refine ⟨by omega, fun h => absurd rfl h, fun _ => ⟨by omega, fun d => ⟨by omega, fun h => absurd rfl h, fun _ => ?_⟩, fun d => ?_⟩⟩
      · rw [sf_stu, if_neg (by omega), if_pos k0, if_pos (by omega)] at q1
        exact q1 rfl p g hS (List.length_eq_zero_iff.mp (show (sf_E D m).length = 0 by omega))
      · rw [sf_stu, if_neg (by omega), if_pos k0, if_neg (by omega)] at q0
        refine sp100 h17 hS.2.2.1 (fun g' k y1 y2 => ⟨_, rfl, ?_⟩)
        rw [if_neg (by omega)] at y1
        rw [y1]
        exact ⟨by omega, fun _ => q0 (by simp) g' (hS.1.fk k) y1 y2, fun h => by omega⟩
    · have k0 : ¬ sf_tk A n p = 0 := fun z => c (m0.mpr z)
      have eR := sf_epR (A := A) hp k0
      refine sp131 hS hp (fun z g' y => ⟨_, rfl, ?_⟩) (fun z g' y1 y2 y3 => ⟨_, rfl, ?_⟩)
      · have k4 : ¬ sf_tk A n p = 4 := fun k4 => by
          have hf1 : sf_hf A n p (sf_E D m).length (sf_c D m) = 1 := by unfold sf_hf; rw [if_pos k4]
          rw [sf_sf3 (by rw [hf1]; decide), hf1] at z
          exact absurd z (by simp)
        have pr : sf_stu A n (f + 1) p D m = sf_stu A n f (sf_ep A n p) (sf_nx A n p D m) (m + 1) := by rw [sf_stu, if_neg k4, if_neg k0, if_pos z]
        rw [pr] at q1 q0
        exact ih g' _ _ _ y (by omega) (by omega) q1 q0
      · have sR := sf_sfR A n p (sf_E D m).length (sf_c D m)
        have pr : (sf_stu A n (f + 1) p D m).1 = (sf_sf A n p (sf_E D m).length (sf_c D m)).1 ∧ (sf_stu A n (f + 1) p D m).2.1 = (sf_sf A n p (sf_E D m).length (sf_c D m)).2 := by
          rw [sf_stu]
          by_cases k4 : sf_tk A n p = 4
          · have hf1 : sf_hf A n p (sf_E D m).length (sf_c D m) = 1 := by unfold sf_hf; rw [if_pos k4]
            rw [if_pos k4, sf_sf3 (by rw [hf1]; decide), hf1]
            exact ⟨rfl, rfl⟩
          · rw [if_neg k4, if_neg k0, if_neg z]
            exact ⟨rfl, rfl⟩
        refine B132_p38_77 _ _ _ _ ⟨by omega, fun _ => ?_, fun h => absurd rfl h⟩
        rw [y2]
        exact ⟨by omega, fun _ => ⟨by omega, fun _ => q0 (by rw [pr.1]; exact z) g' y1 (by rw [pr.1]; exact y2) (by rw [pr.2]; exact y3), fun h => absurd h z⟩, fun h => absurd h z⟩
theorem sp132_c {v2 : Int} (q : ∀ g' : iq_I, (∀ j, ¬ j = 78 → g' j = g j) → (∀ k, 92 ≤ k → k < 452 → g' 78 k = g 78 (1840 + k)) → (∀ k, ¬ (92 ≤ k ∧ k < 452) → g' 78 k = g 78 k) → iq_P N xs 116 0 [some (iq_r 77), some (iq_i (g' 77 21))] [] g' l (fun r g3 l4 => ∃ z5, r = some (iq_i z5) ∧ (Q (some (iq_i z5)) g3 l4))) (f : Nat) : ∀ (v : Nat) (G : iq_I), v + f = 452 → 92 ≤ v → (∀ j, ¬ j = 78 → G j = g j) → (∀ k : Int, 92 ≤ k → k < v → G 78 k = g 78 (1840 + k)) → (∀ k : Int, ¬ (92 ≤ k ∧ k < v) → G 78 k = g 78 k) → iq_P N xs 132 102 [some (iq_r 77), some (iq_i v1), some (iq_i v2), some (iq_i v)] [] G l Q := by
  induction f with
  | zero =>
    intro v G hv v9 b1 b2 b3
    exact B132_p102_77 _ _ _ _ _ ⟨by omega, fun _ => q G b1 (fun k y1 y2 => b2 k y1 (by omega)) (fun k y => b3 k (by omega)), fun h => by omega⟩
  | succ f ih =>
    intro v G hv v9 b1 b2 b3
    refine B132_p102_77 _ _ _ _ _ ⟨by omega, fun h => by omega, fun _ => ⟨by omega, by omega, ?_⟩⟩
    rw [show ((v : Nat) : Int) + 1 = ((v + 1 : Nat) : Int) by omega, b3 (1840 + v) (by omega)]
    refine ih (v + 1) _ (by omega) (by omega) (fun j y => by rw [sf_uzn _ y]; exact b1 j y) (fun k y1 y2 => ?_) (fun k y => ?_)
    · by_cases c : k = v
      · rw [c]; simp [iq_uz]
      · rw [iq_uz78 c]; exact b2 k y1 (by omega)
    · rw [iq_uz78 (by omega)]; exact b3 k (by omega)
end UU
def iq_Mz9 : Nat → Int → Bool := fun j k => (decide (j = 78) && (decide (k = 10) || (decide (92 ≤ k) && decide (k < 452)))) || (decide (j = 77) && (decide (k = 9) || decide (k = 15) || decide (k = 16)))
theorem sf_Mvk {g g' : iq_I} {l : iq_J} (hj : ∀ j, ¬ j = 77 → ¬ j = 78 → ¬ j = 83 → ¬ j = 84 → g' j = g j) (h7 : ∀ k, k = 47 ∨ k = 54 ∨ k = 55 → g' 77 k = g 77 k) (h8 : ∀ k, k < 1840 → ¬ k = 10 → ¬ (92 ≤ k ∧ k < 452) → g' 78 k = g 78 k) : iq_KM iq_Mz9 g l g' l := by
  refine .ofg (fun j k x y => ?_)
  by_cases c7 : j = 77
  · subst c7
    have kk : k = 9 ∨ k = 15 ∨ k = 16 ∨ k = 47 ∨ k = 54 ∨ k = 55 := by
      simp [iq_sx] at x
      omega
    refine h7 k ?_
    rcases kk with e | e | e | e | e | e
    · subst e; simp [iq_Mz9] at y
    · subst e; simp [iq_Mz9] at y
    · subst e; simp [iq_Mz9] at y
    · omega
    · omega
    · omega
  · by_cases c8 : j = 78
    · subst c8
      have k1 : k < 1840 := by simp [iq_sx] at x; omega
      simp [iq_Mz9] at y
      exact h8 k k1 y.1 (by omega)
    · rw [hj j c7 c8 (fun e => by subst e; simp [iq_sx] at x) (fun e => by subst e; simp [iq_sx] at x)]
theorem mStudies {N : Nat} {xs : Nat → Int32} {Q : iq_T} {g : iq_I} {l : iq_J} {A : Int → Int} {a : Int} (h9 : 0 ≤ g 77 9 ∧ g 77 9 ≤ 900) (ha : -2147483648 ≤ a ∧ a ≤ 2147483647) (hA : ∀ k : Int, 0 ≤ k → k < g 77 9 → iq_and (g 82 k) 255 = A k) (q1 : 0 ≤ a ∧ a ≤ g 77 9 ∧ a ≤ 300 → (sf_tst A a).1 = 0 → ∀ g' : iq_I, iq_KM iq_Mz9 g l g' l → g' 78 10 = (sf_tst A a).2.2.2 → (∀ i : Int, 0 ≤ i → i < 6 * (sf_tst A a).2.2.2 → g' 78 (92 + i) = (sf_tst A a).2.2.1 i) → g' 77 9 = 0 → g' 77 15 = 0 → g' 77 16 = -1 → g' 0 0 = g 0 0 → g' 77 1 = 0 → Q (some (iq_i (sf_c (sf_tst A a).2.2.1 (sf_tst A a).2.2.2))) g' l) (q2 : 0 ≤ a ∧ a ≤ g 77 9 ∧ a ≤ 300 → ¬ (sf_tst A a).1 = 0 → ∀ g' : iq_I, iq_KM iq_Mz9 g l g' l → (∀ i, i < 1840 → g' 78 i = g 78 i) → g' 77 9 = 0 → g' 77 15 = (sf_tst A a).1 → g' 77 16 = (sf_tst A a).2.1 → g' 0 0 = g 0 0 → g' 77 1 = 9 → Q (some (iq_i (-1))) g' l) (q0 : ¬ (0 ≤ a ∧ a ≤ g 77 9 ∧ a ≤ 300) → Q (some (iq_i (-1))) (iq_uz g 77 1 1) l) : iq_P N xs 132 0 [some (iq_r 77), some (iq_i a), none, none] [] g l Q := by
  refine B132_77 _ _ _ (sp97 h9 ha (by omega) hA (fun c g1 b1 b2 b3 b4 b5 b6 => ⟨_, rfl, by omega, fun _ => ?_, fun h => by omega⟩) (fun c => ⟨_, rfl, by omega, fun h => absurd rfl h, fun _ => sp98 ⟨_, rfl, q0 c⟩⟩))
  have q1 := q1 c
  have q2 := q2 c
  have e7 : ∀ i : Int, ¬ i = 20 → ¬ i = 21 → (iq_uz (iq_uz (iq_uz g1 78 1850 0) 77 20 0) 77 21 0) 77 i = g1 77 i := fun i y1 y2 => by simp [iq_uz, y1, y2]
  have ej : ∀ j, ¬ j = 77 → ¬ j = 78 → (iq_uz (iq_uz (iq_uz g1 78 1850 0) 77 20 0) 77 21 0) j = g1 j := fun j y1 y2 => by rw [sf_uzn _ y1, sf_uzn _ y1, sf_uzn _ y2]
  have e8 : ∀ i : Int, ¬ i = 1850 → (iq_uz (iq_uz (iq_uz g1 78 1850 0) 77 20 0) 77 21 0) 78 i = g1 78 i := fun i y => by simp [iq_uz, y]
  have e50 : (iq_uz (iq_uz (iq_uz g1 78 1850 0) 77 20 0) 77 21 0) 78 1850 = 0 := by simp [iq_uz]
  have e20 : (iq_uz (iq_uz (iq_uz g1 78 1850 0) 77 20 0) 77 21 0) 77 20 = 0 := by simp [iq_uz]
  have e21 : (iq_uz (iq_uz (iq_uz g1 78 1850 0) 77 20 0) 77 21 0) 77 21 = 0 := by simp [iq_uz]
  generalize (iq_uz (iq_uz (iq_uz g1 78 1850 0) 77 20 0) 77 21 0) = G0 at e7 ej e8 e50 e20 e21 ⊢
  have TS0 : sf_TS G0 G0 A a 0 (fun _ => 0) 0 := by
    unfold sf_TS sf_MB sf_MT1
    rw [e7 10 (by decide) (by decide), e7 11 (by decide) (by decide), e7 12 (by decide) (by decide), e7 13 (by decide) (by decide), e7 14 (by decide) (by decide), e7 17 (by decide) (by decide), e7 16 (by decide) (by decide), ej 83 (by decide) (by decide), e50, e20, e21]
    exact ⟨⟨fun _ _ _ _ => rfl, fun _ _ _ _ => rfl, fun _ _ => rfl⟩, b2, b3, ⟨rfl, rfl, rfl⟩, fun i i1 i2 => by omega, trivial, ⟨by simp [sf_c], by simp [sf_E, sf_c], by simp [sf_E], fun i hi => by omega⟩, b5, b6⟩
  have kj : ∀ g' : iq_I, sf_TK G0 g' → ∀ j, ¬ j = 77 → ¬ j = 78 → ¬ j = 83 → ¬ j = 84 → g' j = g j := fun g' h j y1 y2 y3 y4 => by rw [h.1 j y1 y2 y4, ej j y1 y2, b1.1 j y1 y3]
  have k7 : ∀ g' : iq_I, sf_TK G0 g' → ∀ k, k = 47 ∨ k = 54 ∨ k = 55 → g' 77 k = g 77 k := fun g' h k y => by rw [h.2.1 k (by omega) (by omega) (by omega), e7 k (by omega) (by omega), b1.2 k (by omega) (by omega)]
  have k8 : ∀ g' : iq_I, sf_TK G0 g' → ∀ k, k < 1840 → g' 78 k = g 78 k := fun g' h k y => by rw [h.2.2 k y, e8 k (by omega), b1.1 78 (by decide) (by decide)]
  have k9 : ∀ g' : iq_I, sf_TK G0 g' → g' 77 9 = 0 := fun g' h => by rw [h.2.1 9 (by omega) (by omega) (by omega), e7 9 (by decide) (by decide)]; exact b4
  have prs : sf_stu A a 901 0 (fun _ => 0) 0 = sf_tst A a := rfl
  refine sp132_p (g0 := G0) (A := A) (n := a) 901 _ 0 (fun _ => 0) 0 TS0 (by omega) (by omega) (fun z x G hS eE => ?_) (fun z G hK f17 f16 => ?_)
  · rw [prs] at z hS eE
    obtain ⟨h1, h2, h3, h4, h5, h6, h7, h8, h10⟩ := hS
    refine sp132_c (g := iq_uz G 78 10 (G 78 1850)) (fun H c1 c2 c3 => ?_) 360 92 _ (by omega) (by omega) (fun _ _ => rfl) (fun k y1 y2 => by omega) (fun _ _ => rfl)
    have H7 : H 77 = G 77 := by rw [c1 77 (by decide), sf_uzn _ (by decide)]
    rw [H7, h4.2.2]
    refine B116_77 _ _ _ ?_
    rw [H7, h8]
    have u7 : ∀ i : Int, ¬ i = 15 → ¬ i = 1 → (iq_uz (iq_uz H 77 15 0) 77 1 0) 77 i = G 77 i := fun i y1 y2 => by rw [← H7]; simp [iq_uz, y1, y2]
    have u8 : ∀ i : Int, (iq_uz (iq_uz H 77 15 0) 77 1 0) 78 i = H 78 i := fun i => by rw [sf_uzn _ (by decide), sf_uzn _ (by decide)]
    have uj : ∀ j, ¬ j = 77 → ¬ j = 78 → (iq_uz (iq_uz H 77 15 0) 77 1 0) j = G j := fun j y1 y2 => by rw [sf_uzn _ y1, sf_uzn _ y1, c1 j y2, sf_uzn _ y2]
    refine ⟨by omega, fun _ => sp115 ⟨_, rfl, _, rfl, q1 z _ (sf_Mvk (fun j y1 y2 y3 y4 => by rw [uj j y1 y2]; exact kj G h1 j y1 y2 y3 y4) (fun k y => by rw [u7 k (by omega) (by omega)]; exact k7 G h1 k y) (fun k y1 y2 y3 => ?_)) ?_ (fun i i1 i2 => ?_) (by rw [u7 9 (by decide) (by decide)]; exact k9 G h1) (by simp [iq_uz]) (by rw [u7 16 (by decide) (by decide)]; exact h10) (by rw [uj 0 (by decide) (by decide), kj G h1 0 (by decide) (by decide) (by decide) (by decide)]) (by simp [iq_uz])⟩, fun h => by omega⟩
    · rw [u8, c3 k (by omega), iq_uz78 y2]; exact k8 G h1 k y1
    · rw [u8, c3 10 (by omega), show (iq_uz G 78 10 (G 78 1850)) 78 10 = G 78 1850 by simp [iq_uz]]; exact h4.1
    · have mm : (sf_tst A a).2.2.2 ≤ 60 := by have := h7.1; have := h7.2.1; omega
      rw [u8, c2 _ (by omega) (by omega), iq_uz78 (by omega), show 1840 + (92 + i) = 1932 + i by omega]
      exact h5 i i1 i2
  · rw [prs] at z f17 f16
    have kR := sf_stuR A a 901 0 (fun _ => 0) 0
    rw [prs] at kR
    refine B116_77 _ _ _ ?_
    rw [f17]
    have u7 : ∀ i : Int, ¬ i = 15 → ¬ i = 1 → (iq_uz (iq_uz G 77 15 (sf_tst A a).1) 77 1 9) 77 i = G 77 i := fun i y1 y2 => by simp [iq_uz, y1, y2]
    have uj : ∀ j, ¬ j = 77 → (iq_uz (iq_uz G 77 15 (sf_tst A a).1) 77 1 9) j = G j := fun j y1 => by rw [sf_uzn _ y1, sf_uzn _ y1]
    exact ⟨by omega, fun h => by omega, fun _ => sp98 ⟨_, rfl, _, rfl, q2 z _ (sf_Mvk (fun j y1 y2 y3 y4 => by rw [uj j y1]; exact kj G hK j y1 y2 y3 y4) (fun k y => by rw [u7 k (by omega) (by omega)]; exact k7 G hK k y) (fun k y1 y2 y3 => by rw [uj 78 (by decide)]; exact k8 G hK k y1)) (fun i y => by rw [uj 78 (by decide)]; exact k8 G hK i y) (by rw [u7 9 (by decide) (by decide)]; exact k9 G hK) (by simp [iq_uz]) (by rw [u7 16 (by decide) (by decide)]; exact f16) (by rw [uj 0 (by decide), kj G hK 0 (by decide) (by decide) (by decide) (by decide)]) (by simp [iq_uz])⟩⟩
