/-! copyScale, both sides. -/
theorem cCopyScale {N : Nat} {xs : Nat → Int32} {Q : iq_T} {g : iq_I} {l : iq_J} {t : Int} (hs : iq_SR g l 23 24 25 0) (hT : iq_TR g l) (ht : -2147483648 ≤ t ∧ t ≤ 2147483647) (q1 : sf_wc g t (iq_m (g 24)) = 0 → ∀ (g' : iq_I) (l' : iq_J), iq_KM (iq_Ma (3 + 2 * t.toNat)) g l g' l' → (∀ k, 0 ≤ k → k < iq_m (g 24) → l' (3 + 2 * t.toNat) k = sf_cut (g 79 t) (iq_i2l (iq_t (g 24) k))) → (∀ k, ¬ (0 ≤ k ∧ k < iq_m (g 24)) → l' (3 + 2 * t.toNat) k = l (3 + 2 * t.toNat) k) → g' 0 0 = 0 → Q (some (iq_i (iq_m (g 24)))) g' l') (q0 : ¬ sf_wc g t (iq_m (g 24)) = 0 → ∀ (g' : iq_I) (l' : iq_J), iq_KK g l g' l' → g' 0 0 = sf_wc g t (iq_m (g 24)) → Q (some (iq_i (-1))) g' l') : iq_P N xs 312 0 [some (iq_r 0), some (iq_i t), none, none, none, none, none] [] g l Q := by
  unfold sf_wc at q1 q0
  refine B312_0 _ _ _ (sp27 ht (fun c => ?_) (fun e => ?_) (fun e => ?_) (fun e => ?_) (fun e => ?_))
  · rw [if_neg c] at q0
    exact B312_q5_null _ _ _ (sp89_23 ⟨_, rfl, B311_null _ _ _ ⟨_, rfl, sp44 ⟨_, rfl, q0 (by omega) _ _ ((iq_KK.refl _ _).uz iq_sx00) (by simp [iq_uz])⟩⟩⟩)
  · subst e
    rw [if_pos (by omega)] at q1 q0
    exact cCopy_0 hs hT q1 q0
  · subst e
    rw [if_pos (by omega)] at q1 q0
    exact cCopy_1 hs hT q1 q0
  · subst e
    rw [if_pos (by omega)] at q1 q0
    exact cCopy_2 hs hT q1 q0
  · subst e
    rw [if_pos (by omega)] at q1 q0
    exact cCopy_3 hs hT q1 q0
theorem sp313_p {N : Nat} {xs : Nat → Int32} {Q : iq_T} {g : iq_I} {l : iq_J} {t m : Int} {T : Int → Int} (ht : 0 ≤ t ∧ t < 4) (hs : 0 ≤ g 79 t ∧ g 79 t ≤ 3) (hm : 0 ≤ m ∧ m ≤ 24) (h26 : g 77 26 = m) (hT : ∀ d, 0 ≤ d → d < m → g 85 d = T d) (q : ∀ l' : iq_J, (∀ j, ¬ j = 81 → l' j = l j) → (∀ k, 0 ≤ k → k < m → l' 81 (60 * t + k) = sf_cut (g 79 t) (iq_i2l (T k))) → (∀ k, ¬ (0 ≤ k ∧ k < m) → l' 81 (60 * t + k) = l 81 (60 * t + k)) → Q (some (iq_i m)) (iq_uz g 77 1 0) l') (n : Nat) : ∀ (v : Nat) (l1 : iq_J), (v : Int) + n = m → (∀ j, ¬ j = 81 → l1 j = l j) → (∀ k : Int, 0 ≤ k → k < v → l1 81 (60 * t + k) = sf_cut (g 79 t) (iq_i2l (T k))) → (∀ k : Int, ¬ (0 ≤ k ∧ k < v) → l1 81 (60 * t + k) = l 81 (60 * t + k)) → iq_P N xs 313 54 [some (iq_r 77), some (iq_i t), some (iq_i v)] [] g l1 Q := by
  induction n with
  | zero =>
    intro v l1 h x y w
    refine B313_p54_77 _ _ _ _ ⟨by omega, fun _ => ?_, fun h => by omega⟩
    rw [h26]
    rw [show m = v by omega] at q ⊢
    exact sp115 ⟨_, rfl, q l1 x y w⟩
  | succ n ih =>
    intro v l1 h x y w
    refine B313_p54_77 _ _ _ _ ⟨by omega, fun h => by omega, fun _ => ⟨by omega, ht, sp42 hs ⟨_, rfl, by omega, ?_⟩⟩⟩
    rw [hT v (by omega) (by omega)]
    refine ih (v + 1) _ (by omega) (sf_up x _ _) (fun k u i => ?_) (fun k u => ?_)
    · by_cases e : k = v
      · rw [e]; simp [iq_uz]
      · rw [← y k u (by omega)]
        simp only [iq_uz]
        rw [if_neg (fun z => by have := z.2; omega)]
    · rw [← w k (by omega)]
      simp only [iq_uz]
      rw [if_neg (fun z => by have := z.2; omega)]
/-- the model's copyScale: the class's tray holds the copy already, so only the model's trays are asked for their sorts -/
theorem mCopyScale {N : Nat} {xs : Nat → Int32} {Q : iq_T} {g : iq_I} {l : iq_J} {t : Int} (hs : iq_SR g l 23 24 25 0) (hT : ∀ n : Nat, n < 4 → (0 ≤ g 79 n ∧ g 79 n ≤ 3) ∧ (-1 ≤ g 80 n ∧ g 80 n ≤ 60)) (ht : -2147483648 ≤ t ∧ t ≤ 2147483647) (q1 : sf_wc g t (iq_m (g 24)) = 0 → ∀ (g' : iq_I) (l' : iq_J), iq_KM (iq_Ma 81) g l g' l' → (∀ k, 0 ≤ k → k < iq_m (g 24) → l' 81 (60 * t + k) = sf_cut (g 79 t) (iq_i2l (iq_t (g 24) k))) → (∀ k, ¬ (0 ≤ k ∧ k < iq_m (g 24)) → l' 81 (60 * t + k) = l 81 (60 * t + k)) → g' 0 0 = g 0 0 → g' 77 1 = 0 → Q (some (iq_i (iq_m (g 24)))) g' l') (q0 : ¬ sf_wc g t (iq_m (g 24)) = 0 → ∀ (g' : iq_I) (l' : iq_J), iq_KK g l g' l' → g' 0 0 = g 0 0 → g' 77 1 = sf_wc g t (iq_m (g 24)) → Q (some (iq_i (-1))) g' l') : iq_P N xs 313 0 [some (iq_r 77), some (iq_i t), none] [] g l Q := by
  have hm := iq_mR hs.1
  have hp3 := hs.1.2.2.2.1
  unfold sf_wc at q1 q0
  refine B313_77 _ _ _ (sp32 ht (fun c => ⟨_, rfl, by omega, fun _ => sp114c hs (fun g1 f1 f2 f3 => ⟨rfl, c, ?_⟩), fun h => by omega⟩) (fun c => ⟨_, rfl, by omega, fun h => by omega, fun _ => sp98 ⟨_, rfl, ?_⟩⟩))
  · rw [if_pos c] at q1 q0
    obtain ⟨n, rfl⟩ : ∃ n : Nat, t = n := ⟨t.toNat, by omega⟩
    have hTn := hT n (by omega)
    have e80 : g1 80 = g 80 := f1 80 (by decide) (.inl (by decide))
    have e79 : g1 79 = g 79 := f1 79 (by decide) (.inl (by decide))
    have e26 : g1 77 26 = iq_m (g 24) := f3.1
    have kz : g1 0 0 = g 0 0 := congrFun (f1 0 (by decide) (.inl (by decide))) 0
    have k0 := iq_KKl (l := l) f1 f2
    unfold sf_rn2 at q1 q0
    rw [e80, e26]
    refine ⟨by omega, fun d => ⟨c, by omega, fun e => ?_, fun e => ?_⟩, fun d => ?_⟩
    · rw [if_neg d, if_pos e] at q1
      refine sp313_p (g := g1) (l := l) (T := iq_t (g 24)) c (by rw [e79]; exact hTn.1) (show 0 ≤ iq_m (g 24) ∧ iq_m (g 24) ≤ 24 by omega) e26 f3.2.1 (fun l' x y w => ?_) (iq_m (g 24)).toNat 0 l (by omega) (fun _ _ => rfl) (fun k u i => by omega) (fun _ _ => rfl)
      rw [e79] at y
      have kk : iq_KM (iq_Ma 81) g l g1 l' := by
        have k1 := k0.km (iq_Ma 81)
        refine ⟨fun j k p s => ⟨(k1.1 j k p s).1, ?_⟩, ?_, ?_, ?_, ?_⟩
        · rw [x j (fun e => by rw [e] at s; simp [iq_Ma] at s)]
        · rw [x 0 (by decide)]
        · rw [x 0 (by decide)]
        · rw [x 77 (by decide)]
        · rw [x 77 (by decide)]
      exact q1 rfl _ _ (kk.uz (.inl iq_sx771)) y w (by simp [iq_uz, kz]) (by simp [iq_uz])
    · rw [if_neg d, if_neg (by omega)] at q0
      exact sp98 ⟨_, rfl, q0 (by omega) _ _ (k0.uz iq_sx771) (by simp [iq_uz, kz]) (by simp [iq_uz])⟩
    · rw [if_pos d] at q0
      exact sp98 ⟨_, rfl, q0 (by omega) _ _ (k0.uz iq_sx771) (by simp [iq_uz, kz]) (by simp [iq_uz])⟩
  · rw [if_neg c] at q0
    exact q0 (by omega) _ _ ((iq_KK.refl _ _).uz iq_sx771) (by simp [iq_uz]) (by simp [iq_uz])
