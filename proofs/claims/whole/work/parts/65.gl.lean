/-! Glide in the model. -/
/-- all but the model's scale and its far scratch -/
def iq_79 (g g' : iq_I) : Prop := (∀ j, ¬ j = 78 → g' j = g j) ∧ (∀ k, ¬ ((0 ≤ k ∧ k < 92) ∧ ¬ k = 10) → k < 1840 → g' 78 k = g 78 k)
theorem iq_79.refl (g : iq_I) : iq_79 g g := ⟨fun _ _ => rfl, fun _ _ _ => rfl⟩
theorem iq_79.uz {g g' : iq_I} (h : iq_79 g g') {k v : Int} (hk : ((0 ≤ k ∧ k < 92) ∧ ¬ k = 10) ∨ 1840 ≤ k) : iq_79 g (iq_uz g' 78 k v) := by
  refine ⟨fun j hj => ?_, fun i hi hi2 => ?_⟩
  · rw [← h.1 j hj]; funext i; simp [iq_uz, hj]
  · rw [← h.2 i hi hi2]
    have : ¬ i = k := fun e => by subst e; omega
    simp [iq_uz, this]
theorem iq_79.km {g g' : iq_I} {l : iq_J} (h : iq_79 g g') : iq_KM iq_Mm g l g' l := by
  refine .ofg (fun j k x y => ?_)
  by_cases e : j = 78
  · rw [e] at x y ⊢
    refine h.2 k (fun z => ?_) ?_
    · simp [iq_Mm, z.1.1] at y
      omega
    · simp [iq_sx] at x; omega
  · rw [h.1 j e]
theorem iq_uz78 {g : iq_I} {k v i : Int} (h : ¬ i = k) : (iq_uz g 78 k v) 78 i = g 78 i := by simp [iq_uz, h]
theorem sp191_p {N : Nat} {xs : Nat → Int32} {Q : iq_T} {l : iq_J} {g : iq_I} (q : ∀ g' : iq_I, iq_79 g g' → (∀ k, 0 ≤ k → k < 92 → g' 78 k = g 78 k ∧ g' 78 (2300 + k) = g 78 k) → Q none g' l) (n : Nat) : ∀ (k : Nat) (g1 : iq_I), k + n = 92 → iq_79 g g1 → (∀ i, 0 ≤ i → i < 92 → g1 78 i = g 78 i) → (∀ i : Int, 0 ≤ i → i < k → g1 78 (2300 + i) = g 78 i) → iq_P N xs 191 2 [some (iq_r 77), some (iq_i 2300), some (iq_i k)] [] g1 l Q := by
  induction n with
  | zero =>
    intro k g1 h a b c
    exact B191_p2_77 _ _ _ _ ⟨by omega, fun _ => q g1 a (fun i x y => ⟨b i x y, c i x (by omega)⟩), fun h => by omega⟩
  | succ n ih =>
    intro k g1 h a b c
    refine B191_p2_77 _ _ _ _ ⟨by omega, fun h => by omega, fun _ => ⟨by omega, by omega, ih (k + 1) _ (by omega) (a.uz (by omega)) (fun i x y => ?_) (fun i x y => ?_)⟩⟩
    · rw [iq_uz78 (by omega)]; exact b i x y
    · by_cases e : i = k
      · rw [e, ← b k (by omega) (by omega)]; simp [iq_uz]
      · rw [iq_uz78 (by omega)]; exact c i x (by omega)
theorem sp191 {N : Nat} {xs : Nat → Int32} {Q : iq_T} {g : iq_I} {l : iq_J} (q : ∀ g' : iq_I, iq_79 g g' → (∀ k, 0 ≤ k → k < 92 → g' 78 k = g 78 k ∧ g' 78 (2300 + k) = g 78 k) → Q none g' l) : iq_P N xs 191 0 [some (iq_r 77), some (iq_i 2300), none] [] g l Q :=
  B191_77 _ _ _ (sp191_p (g := g) q 92 0 g (by omega) (.refl g) (fun _ _ _ => rfl) (fun i x y => by omega))
theorem sp195_c {N : Nat} {xs : Nat → Int32} {Q : iq_T} {l : iq_J} {g : iq_I} {n : Int} (q : ∀ g' : iq_I, iq_79 g g' → (∀ k, ¬ (20 ≤ k ∧ k < 80) → g' 78 k = g 78 k) → (∀ t, 0 ≤ t → t < 60 → g' 78 (20 + t) = 0) → iq_P N xs 195 51 [some (iq_r 77), some (iq_i n), some (iq_i 0)] [] g' l Q) (m : Nat) : ∀ (k : Nat) (g1 : iq_I), k + m = 60 → iq_79 g g1 → (∀ i, ¬ (20 ≤ i ∧ i < 80) → g1 78 i = g 78 i) → (∀ t : Int, 0 ≤ t → t < k → g1 78 (20 + t) = 0) → iq_P N xs 195 27 [some (iq_r 77), some (iq_i n), some (iq_i k)] [] g1 l Q := by
  induction m with
  | zero =>
    intro k g1 h a b c
    exact B195_p27_77 _ _ _ _ ⟨by omega, fun _ => q g1 a b (fun t x y => c t x (by omega)), fun h => by omega⟩
  | succ m ih =>
    intro k g1 h a b c
    refine B195_p27_77 _ _ _ _ ⟨by omega, fun h => by omega, fun _ => ⟨by omega, ih (k + 1) _ (by omega) (a.uz (by omega)) (fun i x => ?_) (fun t x y => ?_)⟩⟩
    · rw [iq_uz78 (by omega)]; exact b i x
    · by_cases e : t = k
      · rw [e]; simp [iq_uz]
      · rw [iq_uz78 (by omega)]; exact c t x (by omega)
theorem sp195_p {N : Nat} {xs : Nat → Int32} {Q : iq_T} {l : iq_J} {g : iq_I} {p n : Int} {S : Int64} (hp : 2 ≤ p ∧ p ≤ 60) (hn : 0 ≤ n ∧ n < 60) (h1 : g 78 1 = p) (hS : ∀ t, 0 ≤ t → t < p → g 78 (2320 + t) = if iq_tb S t = true then 1 else 0) (q : ∀ g' : iq_I, iq_79 g g' → (∀ k, ¬ (20 ≤ k ∧ k < 80) → g' 78 k = g 78 k) → (∀ t, 0 ≤ t → t < 60 → g' 78 (20 + t) = if (decide (0 ≤ t) && decide (t < p) && iq_tb S ((t - n) % p)) = true then 1 else 0) → iq_P N xs 194 0 [some (iq_r 77)] [] g' l (fun r g1 l2 => ∃ z3, r = some (iq_i z3) ∧ (iq_P N xs 115 0 [some (iq_r 77), some (iq_i z3)] [] g1 l2 (fun r g4 l5 => ∃ z6, r = some (iq_i z6) ∧ (Q (some (iq_i z6)) g4 l5))))) (m : Nat) : ∀ (v : Nat) (g1 : iq_I), (v : Int) + m = p → iq_79 g g1 → (∀ i, ¬ (20 ≤ i ∧ i < 80) → g1 78 i = g 78 i) → (∀ t, 0 ≤ t → t < 60 → g1 78 (20 + t) = if (decide (0 ≤ t) && decide (t < p) && (decide ((t - n) % p < v) && iq_tb S ((t - n) % p))) = true then 1 else 0) → iq_P N xs 195 51 [some (iq_r 77), some (iq_i n), some (iq_i v)] [] g1 l Q := by
  have mR : ∀ t : Int, 0 ≤ (t - n) % p ∧ (t - n) % p < p := fun t => ⟨Int.emod_nonneg _ (by omega), Int.emod_lt_of_pos _ (by omega)⟩
  induction m with
  | zero =>
    intro v g1 h a b c
    have e1 : g1 78 1 = p := by rw [b 1 (by omega)]; exact h1
    refine B195_p51_77 _ _ _ _ ⟨by omega, fun _ => q g1 a b (fun t x y => ?_), fun h => by omega⟩
    have := mR t
    rw [c t x y, decide_eq_true (show (t - n) % p < (v : Int) by omega), Bool.true_and]
  | succ m ih =>
    intro v g1 h a b c
    have e1 : g1 78 1 = p := by rw [b 1 (by omega)]; exact h1
    have eS : g1 78 (2320 + v) = if iq_tb S v = true then 1 else 0 := by rw [b _ (by omega)]; exact hS v (by omega) (by omega)
    have key : ∀ t : Int, 0 ≤ t → t < p → ((t - n) % p = v ↔ t = (v + n) % p) := by
      intro t x y
      constructor
      · intro e
        rw [← e, Int.emod_add_emod, show t - n + n = t by omega, Int.emod_eq_of_lt x y]
      · intro e
        rw [e, Int.emod_sub_emod, show (v : Int) + n - n = v by omega, Int.emod_eq_of_lt (by omega) (by omega)]
    refine B195_p51_77 _ _ _ _ ⟨by omega, fun h => by omega, fun _ => ⟨by omega, ?_⟩⟩
    rw [eS]
    rcases hb : iq_tb S v with _ | _
    · refine ⟨by simp, fun _ => ih (v + 1) g1 (by omega) a b (fun t x y => ?_), fun h => by simp at h⟩
      rw [c t x y]
      by_cases e : (t - n) % p = v
      · rw [e, hb]; simp
      · have : decide ((t - n) % p < ((v + 1 : Nat) : Int)) = decide ((t - n) % p < (v : Int)) := by
          refine iq_beq ?_
          simp only [decide_eq_true_eq]; omega
        rw [this]
    · refine ⟨by simp, fun h => by simp at h, fun _ => ?_⟩
      rw [e1]
      have r1 := Int.emod_nonneg ((v : Int) + n) (show p ≠ 0 by omega)
      have r2 := Int.emod_lt_of_pos ((v : Int) + n) (show 0 < p by omega)
      refine sp111 (by omega) (by omega) ⟨_, rfl, by omega, ih (v + 1) _ (by omega) (a.uz (by omega)) (fun i x => ?_) (fun t x y => ?_)⟩
      · rw [iq_uz78 (by omega)]; exact b i x
      · by_cases e : t = ((v : Int) + n) % p
        · have e' := (key t x (by omega)).mpr e
          rw [e', hb, ← e]
          have z : (decide (0 ≤ t) && decide (t < p) && (decide ((v : Int) < ((v + 1 : Nat) : Int)) && true)) = true := by
            simp; omega
          rw [z]; simp [iq_uz]
        · rw [iq_uz78 (by omega), c t x y]
          by_cases e2 : t < p
          · have e' : ¬ (t - n) % p = v := fun w => e ((key t x e2).mp w)
            have : decide ((t - n) % p < ((v + 1 : Nat) : Int)) = decide ((t - n) % p < (v : Int)) := by
              refine iq_beq ?_
              simp only [decide_eq_true_eq]; omega
            rw [this]
          · rw [decide_eq_false e2]; simp
theorem mGlide {N : Nat} {xs : Nat → Int32} {Q : iq_T} {g : iq_I} {l : iq_J} {P : Int → Int} {S S' : Int64} {m : Int} {R : Int → Int} {n : Int} (hv : iq_ZV P S m R) (hM : iq_MS g 0 P S m R) (hn : -2147483648 ≤ n ∧ n ≤ 2147483647) (hC : 0 ≤ n ∧ n < 60 → iq_CZ g l 23 24 25 P S' m R) (hS' : ∀ t, iq_tb S' t = (decide (0 ≤ t) && decide (t < P 1) && iq_tb S ((t - n) % P 1))) (q1 : 0 ≤ n ∧ n < 60 → ∀ g' : iq_I, iq_KM iq_Mm g l g' l → iq_MS g' 0 P S' m R → g' 0 0 = g 0 0 → g' 77 1 = 0 → Q (some (iq_i (sf_fit P S' (P 2) (P 5)))) g' l) (q0 : ¬ (0 ≤ n ∧ n < 60) → ∀ g' : iq_I, iq_KK g l g' l → g' 0 0 = g 0 0 → g' 77 1 = 1 → Q (some (iq_i (-1))) g' l) : iq_P N xs 195 0 [some (iq_r 77), some (iq_i n), none] [] g l Q := by
  have hp1 := hv.1.2.1
  have hm := hv.2.2.1
  have en := iq_i2lv hn.1 hn.2
  have e59 : (Int64.ofNat 59).toInt = 59 := by decide
  refine B195_77 _ _ _ (sp149 (fun a b => ⟨_, rfl, by omega, fun _ => ?_, fun h => by omega⟩) (fun a => ⟨_, rfl, by omega, fun h => by omega, fun _ => sp98 ⟨_, rfl, ?_⟩⟩))
  · rw [en, iq_of640] at a
    rw [en, e59] at b
    have hn' : 0 ≤ n ∧ n < 60 := by omega
    refine sp191 (fun g1 a1 b1 => ⟨rfl, sp195_c (g := g1) (fun g2 a2 b2 c2 => ?_) 60 0 g1 (by omega) (.refl g1) (fun _ _ => rfl) (fun t x y => by omega)⟩)
    refine sp195_p (g := g2) (p := P 1) (S := S) hp1 hn' ?_ (fun t x y => ?_) (fun g3 a3 b3 c3 => ?_) (P 1).toNat 0 g2 (by omega) (.refl g2) (fun _ _ => rfl) (fun t x y => ?_)
    · rw [b2 1 (by omega), (b1 1 (by omega) (by omega)).1]; exact hM.p 1 (by omega) (by omega)
    · rw [b2 _ (by omega), show (2320 : Int) + t = 2300 + (20 + t) by omega, (b1 (20 + t) (by omega) (by omega)).2]
      exact hM.s t x (by omega)
    · have o : ∀ k, ¬ (20 ≤ k ∧ k < 80) → 0 ≤ k → k < 92 → g3 78 k = g 78 k := fun k x y z => by rw [b3 k x, b2 k x, (b1 k y z).1]
      have hM3 : iq_MS g3 0 P S' m R := by
        refine .mk0 (fun k x y => ?_) (fun t x y => ?_) ?_ (fun k x y => ?_)
        · rw [o k (by omega) (by omega) (by omega)]; exact hM.p k x y
        · rw [c3 t x y, hS' t]
        · rw [o 9 (by omega) (by omega) (by omega)]; exact hM.n
        · rw [o (80 + k) (by omega) (by omega) (by omega)]; exact hM.r k x y
      have kk : iq_KM iq_Mm g l g3 l := ((a1.km (l := l)).trans (a2.km)).trans a3.km
      have hC3 := (hC hn').keep kk
      have hs3 : iq_SR g3 l 23 24 25 0 := iq_SR.of hC3 hM3
      refine sp194 hs3 (fun g4 a4 => ⟨_, rfl, sp115 ⟨_, rfl, ?_⟩⟩)
      rw [sf_fitcg hC3.2.1, hC3.2.2.1, hC3.2.1 2 (by omega) (by omega), hC3.2.1 5 (by omega) (by omega)]
      have e78 : g4 78 = g3 78 := a4 78 (by decide)
      refine q1 hn' _ ((kk.trans ((iq_KKc a4).km iq_Mm)).uz (.inl iq_sx771)) (.mk0 (fun k x y => ?_) (fun t x y => ?_) ?_ (fun k x y => ?_)) ?_ (by simp [iq_uz])
      · rw [← hM3.p k x y, ← e78]; simp [iq_uz]
      · rw [← hM3.s t x y, ← e78]; simp [iq_uz]
      · rw [← hM3.n, ← e78]; simp [iq_uz]
      · rw [← hM3.r k x y, ← e78]; simp [iq_uz]
      · rw [← a1.1 0 (by decide), ← a2.1 0 (by decide), ← a3.1 0 (by decide), ← a4 0 (by decide)]; simp [iq_uz]
    · have r1 := Int.emod_nonneg (t - n) (show P 1 ≠ 0 by omega)
      rw [c2 t x y, decide_eq_false (show ¬ (t - n) % P 1 < ((0 : Nat) : Int) by omega)]
      simp
  · rw [en, iq_of640, e59] at a
    exact q0 (by omega) _ ((iq_KK.refl _ _).uz iq_sx771) (by simp [iq_uz]) (by simp [iq_uz])
