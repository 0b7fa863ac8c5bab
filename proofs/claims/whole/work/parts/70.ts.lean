/-! Trays: read, tray. -/
theorem sf_T0 {g : iq_I} {l : iq_J} (hT : iq_TR g l) : g 2 1 = g 79 0 ∧ g 2 2 = g 80 0 ∧ (0 ≤ g 79 0 ∧ g 79 0 ≤ 3) ∧ (-1 ≤ g 80 0 ∧ g 80 0 ≤ 60) := by
  have := hT 0 (by omega)
  exact ⟨this.1, this.2.1, this.2.2.1, this.2.2.2.1⟩
theorem sp46_2 {N : Nat} {xs : Nat → Int32} {Q : iq_T} {g : iq_I} {l : iq_J} {t p : Int} (hT : iq_TR g l) (hp : -2147483648 ≤ p ∧ p ≤ 2147483647) (q1 : sf_wp (g 80 0) p = 0 → Q (some (iq_l (l 3 p))) (iq_uz g 0 0 0) l) (q0 : ¬ sf_wp (g 80 0) p = 0 → Q (some (iq_l (-1))) (iq_uz g 0 0 (sf_wp (g 80 0) p)) l) : iq_P N xs 46 5 [some (iq_r 0), some (iq_i t), some (iq_i p), none, none] [iq_r 2] g l Q := by
  obtain ⟨a1, a2, a3, a4⟩ := sf_T0 hT
  refine B46_q5_2 _ _ _ _ (sp37_2 hp (by omega) ⟨_, rfl, ?_⟩)
  rw [a2]
  have hR := sf_wpR (g 80 0) p
  have e1 : (iq_uz g 0 0 0) 2 2 = g 80 0 := by rw [← a2]; simp [iq_uz]
  refine ⟨by omega, fun z => sp45_2 (by omega) (by rw [e1]; exact sf_wp0 z) ⟨_, rfl, q1 z⟩, fun z => sp44 ⟨_, rfl, ?_⟩⟩
  rw [show iq_i2l (-1) = -1 by decide]
  exact q0 z
theorem sp31_2 {N : Nat} {xs : Nat → Int32} {Q : iq_T} {g : iq_I} {l : iq_J} {t s n : Int} (hs : -2147483648 ≤ s ∧ s ≤ 2147483647) (hn : -2147483648 ≤ n ∧ n ≤ 2147483647) (q1 : (0 ≤ s ∧ s ≤ 3) ∧ 0 ≤ n ∧ n ≤ 60 → ∀ l' : iq_J, (∀ j, ¬ j = 3 → l' j = l j) → (∀ k, 0 ≤ k → k < 60 → l' 3 k = 0) → Q (some (iq_i 1)) (iq_uz (iq_uz (iq_uz g 2 1 s) 2 2 n) 0 0 0) l') (q0 : ¬ ((0 ≤ s ∧ s ≤ 3) ∧ 0 ≤ n ∧ n ≤ 60) → Q (some (iq_i 0)) (iq_uz g 0 0 1) l) : iq_P N xs 31 5 [some (iq_r 0), some (iq_i t), some (iq_i s), some (iq_i n), none] [iq_r 2] g l Q :=
  B31_q5_2 _ _ _ _ _ ⟨by omega, fun c => sp28 ⟨_, rfl, .inl rfl, q0 (by omega)⟩, fun c1 => ⟨by omega, fun c => sp28 ⟨_, rfl, .inl rfl, q0 (by omega)⟩, fun c2 => ⟨by omega, fun c => sp28 ⟨_, rfl, .inl rfl, q0 (by omega)⟩, fun c3 => ⟨by omega, fun c4 => sp29_2 (fun l' x y => ⟨rfl, sp30 ⟨_, rfl, .inr rfl, q1 ⟨⟨c1, c2⟩, c3, c4⟩ l' x y⟩⟩), fun c => sp28 ⟨_, rfl, .inl rfl, q0 (by omega)⟩⟩⟩⟩⟩
theorem sf_T1 {g : iq_I} {l : iq_J} (hT : iq_TR g l) : g 4 1 = g 79 1 ∧ g 4 2 = g 80 1 ∧ (0 ≤ g 79 1 ∧ g 79 1 ≤ 3) ∧ (-1 ≤ g 80 1 ∧ g 80 1 ≤ 60) := by
  have := hT 1 (by omega)
  exact ⟨this.1, this.2.1, this.2.2.1, this.2.2.2.1⟩
theorem sp46_4 {N : Nat} {xs : Nat → Int32} {Q : iq_T} {g : iq_I} {l : iq_J} {t p : Int} (hT : iq_TR g l) (hp : -2147483648 ≤ p ∧ p ≤ 2147483647) (q1 : sf_wp (g 80 1) p = 0 → Q (some (iq_l (l 5 p))) (iq_uz g 0 0 0) l) (q0 : ¬ sf_wp (g 80 1) p = 0 → Q (some (iq_l (-1))) (iq_uz g 0 0 (sf_wp (g 80 1) p)) l) : iq_P N xs 46 5 [some (iq_r 0), some (iq_i t), some (iq_i p), none, none] [iq_r 4] g l Q := by
  obtain ⟨a1, a2, a3, a4⟩ := sf_T1 hT
  refine B46_q5_4 _ _ _ _ (sp37_4 hp (by omega) ⟨_, rfl, ?_⟩)
  rw [a2]
  have hR := sf_wpR (g 80 1) p
  have e1 : (iq_uz g 0 0 0) 4 2 = g 80 1 := by rw [← a2]; simp [iq_uz]
  refine ⟨by omega, fun z => sp45_4 (by omega) (by rw [e1]; exact sf_wp0 z) ⟨_, rfl, q1 z⟩, fun z => sp44 ⟨_, rfl, ?_⟩⟩
  rw [show iq_i2l (-1) = -1 by decide]
  exact q0 z
theorem sp31_4 {N : Nat} {xs : Nat → Int32} {Q : iq_T} {g : iq_I} {l : iq_J} {t s n : Int} (hs : -2147483648 ≤ s ∧ s ≤ 2147483647) (hn : -2147483648 ≤ n ∧ n ≤ 2147483647) (q1 : (0 ≤ s ∧ s ≤ 3) ∧ 0 ≤ n ∧ n ≤ 60 → ∀ l' : iq_J, (∀ j, ¬ j = 5 → l' j = l j) → (∀ k, 0 ≤ k → k < 60 → l' 5 k = 0) → Q (some (iq_i 1)) (iq_uz (iq_uz (iq_uz g 4 1 s) 4 2 n) 0 0 0) l') (q0 : ¬ ((0 ≤ s ∧ s ≤ 3) ∧ 0 ≤ n ∧ n ≤ 60) → Q (some (iq_i 0)) (iq_uz g 0 0 1) l) : iq_P N xs 31 5 [some (iq_r 0), some (iq_i t), some (iq_i s), some (iq_i n), none] [iq_r 4] g l Q :=
  B31_q5_4 _ _ _ _ _ ⟨by omega, fun c => sp28 ⟨_, rfl, .inl rfl, q0 (by omega)⟩, fun c1 => ⟨by omega, fun c => sp28 ⟨_, rfl, .inl rfl, q0 (by omega)⟩, fun c2 => ⟨by omega, fun c => sp28 ⟨_, rfl, .inl rfl, q0 (by omega)⟩, fun c3 => ⟨by omega, fun c4 => sp29_4 (fun l' x y => ⟨rfl, sp30 ⟨_, rfl, .inr rfl, q1 ⟨⟨c1, c2⟩, c3, c4⟩ l' x y⟩⟩), fun c => sp28 ⟨_, rfl, .inl rfl, q0 (by omega)⟩⟩⟩⟩⟩
theorem sf_T2 {g : iq_I} {l : iq_J} (hT : iq_TR g l) : g 6 1 = g 79 2 ∧ g 6 2 = g 80 2 ∧ (0 ≤ g 79 2 ∧ g 79 2 ≤ 3) ∧ (-1 ≤ g 80 2 ∧ g 80 2 ≤ 60) := by
  have := hT 2 (by omega)
  exact ⟨this.1, this.2.1, this.2.2.1, this.2.2.2.1⟩
theorem sp46_6 {N : Nat} {xs : Nat → Int32} {Q : iq_T} {g : iq_I} {l : iq_J} {t p : Int} (hT : iq_TR g l) (hp : -2147483648 ≤ p ∧ p ≤ 2147483647) (q1 : sf_wp (g 80 2) p = 0 → Q (some (iq_l (l 7 p))) (iq_uz g 0 0 0) l) (q0 : ¬ sf_wp (g 80 2) p = 0 → Q (some (iq_l (-1))) (iq_uz g 0 0 (sf_wp (g 80 2) p)) l) : iq_P N xs 46 5 [some (iq_r 0), some (iq_i t), some (iq_i p), none, none] [iq_r 6] g l Q := by
  obtain ⟨a1, a2, a3, a4⟩ := sf_T2 hT
  refine B46_q5_6 _ _ _ _ (sp37_6 hp (by omega) ⟨_, rfl, ?_⟩)
  rw [a2]
  have hR := sf_wpR (g 80 2) p
  have e1 : (iq_uz g 0 0 0) 6 2 = g 80 2 := by rw [← a2]; simp [iq_uz]
  refine ⟨by omega, fun z => sp45_6 (by omega) (by rw [e1]; exact sf_wp0 z) ⟨_, rfl, q1 z⟩, fun z => sp44 ⟨_, rfl, ?_⟩⟩
  rw [show iq_i2l (-1) = -1 by decide]
  exact q0 z
theorem sp31_6 {N : Nat} {xs : Nat → Int32} {Q : iq_T} {g : iq_I} {l : iq_J} {t s n : Int} (hs : -2147483648 ≤ s ∧ s ≤ 2147483647) (hn : -2147483648 ≤ n ∧ n ≤ 2147483647) (q1 : (0 ≤ s ∧ s ≤ 3) ∧ 0 ≤ n ∧ n ≤ 60 → ∀ l' : iq_J, (∀ j, ¬ j = 7 → l' j = l j) → (∀ k, 0 ≤ k → k < 60 → l' 7 k = 0) → Q (some (iq_i 1)) (iq_uz (iq_uz (iq_uz g 6 1 s) 6 2 n) 0 0 0) l') (q0 : ¬ ((0 ≤ s ∧ s ≤ 3) ∧ 0 ≤ n ∧ n ≤ 60) → Q (some (iq_i 0)) (iq_uz g 0 0 1) l) : iq_P N xs 31 5 [some (iq_r 0), some (iq_i t), some (iq_i s), some (iq_i n), none] [iq_r 6] g l Q :=
  B31_q5_6 _ _ _ _ _ ⟨by omega, fun c => sp28 ⟨_, rfl, .inl rfl, q0 (by omega)⟩, fun c1 => ⟨by omega, fun c => sp28 ⟨_, rfl, .inl rfl, q0 (by omega)⟩, fun c2 => ⟨by omega, fun c => sp28 ⟨_, rfl, .inl rfl, q0 (by omega)⟩, fun c3 => ⟨by omega, fun c4 => sp29_6 (fun l' x y => ⟨rfl, sp30 ⟨_, rfl, .inr rfl, q1 ⟨⟨c1, c2⟩, c3, c4⟩ l' x y⟩⟩), fun c => sp28 ⟨_, rfl, .inl rfl, q0 (by omega)⟩⟩⟩⟩⟩
theorem sf_T3 {g : iq_I} {l : iq_J} (hT : iq_TR g l) : g 8 1 = g 79 3 ∧ g 8 2 = g 80 3 ∧ (0 ≤ g 79 3 ∧ g 79 3 ≤ 3) ∧ (-1 ≤ g 80 3 ∧ g 80 3 ≤ 60) := by
  have := hT 3 (by omega)
  exact ⟨this.1, this.2.1, this.2.2.1, this.2.2.2.1⟩
theorem sp46_8 {N : Nat} {xs : Nat → Int32} {Q : iq_T} {g : iq_I} {l : iq_J} {t p : Int} (hT : iq_TR g l) (hp : -2147483648 ≤ p ∧ p ≤ 2147483647) (q1 : sf_wp (g 80 3) p = 0 → Q (some (iq_l (l 9 p))) (iq_uz g 0 0 0) l) (q0 : ¬ sf_wp (g 80 3) p = 0 → Q (some (iq_l (-1))) (iq_uz g 0 0 (sf_wp (g 80 3) p)) l) : iq_P N xs 46 5 [some (iq_r 0), some (iq_i t), some (iq_i p), none, none] [iq_r 8] g l Q := by
  obtain ⟨a1, a2, a3, a4⟩ := sf_T3 hT
  refine B46_q5_8 _ _ _ _ (sp37_8 hp (by omega) ⟨_, rfl, ?_⟩)
  rw [a2]
  have hR := sf_wpR (g 80 3) p
  have e1 : (iq_uz g 0 0 0) 8 2 = g 80 3 := by rw [← a2]; simp [iq_uz]
  refine ⟨by omega, fun z => sp45_8 (by omega) (by rw [e1]; exact sf_wp0 z) ⟨_, rfl, q1 z⟩, fun z => sp44 ⟨_, rfl, ?_⟩⟩
  rw [show iq_i2l (-1) = -1 by decide]
  exact q0 z
theorem sp31_8 {N : Nat} {xs : Nat → Int32} {Q : iq_T} {g : iq_I} {l : iq_J} {t s n : Int} (hs : -2147483648 ≤ s ∧ s ≤ 2147483647) (hn : -2147483648 ≤ n ∧ n ≤ 2147483647) (q1 : (0 ≤ s ∧ s ≤ 3) ∧ 0 ≤ n ∧ n ≤ 60 → ∀ l' : iq_J, (∀ j, ¬ j = 9 → l' j = l j) → (∀ k, 0 ≤ k → k < 60 → l' 9 k = 0) → Q (some (iq_i 1)) (iq_uz (iq_uz (iq_uz g 8 1 s) 8 2 n) 0 0 0) l') (q0 : ¬ ((0 ≤ s ∧ s ≤ 3) ∧ 0 ≤ n ∧ n ≤ 60) → Q (some (iq_i 0)) (iq_uz g 0 0 1) l) : iq_P N xs 31 5 [some (iq_r 0), some (iq_i t), some (iq_i s), some (iq_i n), none] [iq_r 8] g l Q :=
  B31_q5_8 _ _ _ _ _ ⟨by omega, fun c => sp28 ⟨_, rfl, .inl rfl, q0 (by omega)⟩, fun c1 => ⟨by omega, fun c => sp28 ⟨_, rfl, .inl rfl, q0 (by omega)⟩, fun c2 => ⟨by omega, fun c => sp28 ⟨_, rfl, .inl rfl, q0 (by omega)⟩, fun c3 => ⟨by omega, fun c4 => sp29_8 (fun l' x y => ⟨rfl, sp30 ⟨_, rfl, .inr rfl, q1 ⟨⟨c1, c2⟩, c3, c4⟩ l' x y⟩⟩), fun c => sp28 ⟨_, rfl, .inl rfl, q0 (by omega)⟩⟩⟩⟩⟩
theorem cRead {N : Nat} {xs : Nat → Int32} {Q : iq_T} {g : iq_I} {l : iq_J} {t p : Int} (hT : iq_TR g l) (ht : -2147483648 ≤ t ∧ t ≤ 2147483647) (hp : -2147483648 ≤ p ∧ p ≤ 2147483647) (q1 : sf_wt g t p = 0 → Q (some (iq_l (l 81 (60 * t + p)))) (iq_uz g 0 0 0) l) (q0 : ¬ sf_wt g t p = 0 → Q (some (iq_l (-1))) (iq_uz g 0 0 (sf_wt g t p)) l) : iq_P N xs 46 0 [some (iq_r 0), some (iq_i t), some (iq_i p), none, none] [] g l Q := by
  unfold sf_wt at q1 q0
  have key : ∀ n : Nat, n < 4 → sf_wp (g 80 n) p = 0 → l (3 + 2 * n) p = l 81 (60 * n + p) := fun n hn z => (hT n hn).2.2.2.2 p (sf_wp0 z).1 (sf_wp0 z).2
  refine B46_0 _ _ _ _ (sp27 ht (fun c => ?_) (fun e => ?_) (fun e => ?_) (fun e => ?_) (fun e => ?_))
  · rw [if_neg c] at q0
    refine B46_q5_null _ _ _ _ (B37_null _ _ _ ⟨_, rfl, sp44 ⟨_, rfl, ?_⟩⟩)
    rw [show iq_i2l (-1) = -1 by decide]
    exact q0 (by omega)
  · subst e
    rw [if_pos (by omega)] at q1 q0
    exact sp46_2 hT hp (fun z => by rw [key 0 (by omega) z]; exact q1 z) q0
  · subst e
    rw [if_pos (by omega)] at q1 q0
    exact sp46_4 hT hp (fun z => by rw [key 1 (by omega) z]; exact q1 z) q0
  · subst e
    rw [if_pos (by omega)] at q1 q0
    exact sp46_6 hT hp (fun z => by rw [key 2 (by omega) z]; exact q1 z) q0
  · subst e
    rw [if_pos (by omega)] at q1 q0
    exact sp46_8 hT hp (fun z => by rw [key 3 (by omega) z]; exact q1 z) q0
/-- a tray may be made so -/
def sf_ty (t s n : Int) : Prop := (0 ≤ t ∧ t < 4) ∧ (0 ≤ s ∧ s ≤ 3) ∧ 0 ≤ n ∧ n ≤ 60
theorem cTray {N : Nat} {xs : Nat → Int32} {Q : iq_T} {g : iq_I} {l : iq_J} {t s n : Int} (ht : -2147483648 ≤ t ∧ t ≤ 2147483647) (hs : -2147483648 ≤ s ∧ s ≤ 2147483647) (hn : -2147483648 ≤ n ∧ n ≤ 2147483647) (q1 : sf_ty t s n → ∀ l' : iq_J, (∀ j, ¬ j = 3 + 2 * t.toNat → l' j = l j) → (∀ k, 0 ≤ k → k < 60 → l' (3 + 2 * t.toNat) k = 0) → Q (some (iq_i 1)) (iq_uz (iq_uz (iq_uz g (2 + 2 * t.toNat) 1 s) (2 + 2 * t.toNat) 2 n) 0 0 0) l') (q0 : ¬ sf_ty t s n → Q (some (iq_i 0)) (iq_uz g 0 0 1) l) : iq_P N xs 31 0 [some (iq_r 0), some (iq_i t), some (iq_i s), some (iq_i n), none] [] g l Q := by
  unfold sf_ty at q1 q0
  refine B31_0 _ _ _ _ _ (sp27 ht (fun c => ?_) (fun e => ?_) (fun e => ?_) (fun e => ?_) (fun e => ?_))
  · exact B31_q5_null _ _ _ _ _ (sp28 ⟨_, rfl, .inl rfl, q0 (fun z => c z.1)⟩)
  · subst e; exact sp31_2 hs hn (fun z => q1 ⟨by omega, z⟩) (fun z => q0 (fun y => z y.2))
  · subst e; exact sp31_4 hs hn (fun z => q1 ⟨by omega, z⟩) (fun z => q0 (fun y => z y.2))
  · subst e; exact sp31_6 hs hn (fun z => q1 ⟨by omega, z⟩) (fun z => q0 (fun y => z y.2))
  · subst e; exact sp31_8 hs hn (fun z => q1 ⟨by omega, z⟩) (fun z => q0 (fun y => z y.2))
theorem sp34_p {N : Nat} {xs : Nat → Int32} {Q : iq_T} {g : iq_I} {l : iq_J} {t s n : Int} (hy : sf_ty t s n) (q : ∀ l' : iq_J, (∀ j, ¬ j = 81 → l' j = l j) → (∀ e, ¬ (60 * t ≤ e ∧ e < 60 * t + n) → l' 81 e = l 81 e) → (∀ k, 0 ≤ k → k < n → l' 81 (60 * t + k) = 0) → Q (some (iq_i 1)) (iq_uz g 77 1 0) l') (m : Nat) : ∀ (k : Nat) (l1 : iq_J), (k : Int) + m = n → (∀ j, ¬ j = 81 → l1 j = l j) → (∀ e, ¬ (60 * t ≤ e ∧ e < 60 * t + n) → l1 81 e = l 81 e) → (∀ i : Int, 0 ≤ i → i < k → l1 81 (60 * t + i) = 0) → iq_P N xs 34 49 [some (iq_r 77), some (iq_i t), some (iq_i s), some (iq_i n), some (iq_i k)] [] g l1 Q := by
  obtain ⟨y1, y2, y3⟩ := hy
  induction m with
  | zero =>
    intro k l1 h a b c
    exact B34_p49_77 _ _ _ _ _ _ ⟨by omega, fun _ => sp33 (by omega) (fun _ => ⟨_, rfl, .inr rfl, q l1 a b (fun i u w => c i u (by omega))⟩) (fun h => by omega), fun h => by omega⟩
  | succ m ih =>
    intro k l1 h a b c
    refine B34_p49_77 _ _ _ _ _ _ ⟨by omega, fun h => by omega, fun _ => ⟨by omega, ih (k + 1) _ (by omega) (sf_up a _ _) (fun e he => ?_) (fun i u w => ?_)⟩⟩
    · rw [← b e he]
      have : ¬ e = 60 * t + k := by omega
      simp [iq_uz, this]
    · by_cases e : i = k
      · rw [e]; simp [iq_uz]
      · rw [← c i u (by omega)]
        have : ¬ 60 * t + i = 60 * t + k := by omega
        simp only [iq_uz]
        rw [if_neg (fun z => this z.2)]
theorem mTray {N : Nat} {xs : Nat → Int32} {Q : iq_T} {g : iq_I} {l : iq_J} {t s n : Int} (ht : -2147483648 ≤ t ∧ t ≤ 2147483647) (hs : -2147483648 ≤ s ∧ s ≤ 2147483647) (hn : -2147483648 ≤ n ∧ n ≤ 2147483647) (q1 : sf_ty t s n → ∀ l' : iq_J, (∀ j, ¬ j = 81 → l' j = l j) → (∀ e, ¬ (60 * t ≤ e ∧ e < 60 * t + n) → l' 81 e = l 81 e) → (∀ k, 0 ≤ k → k < n → l' 81 (60 * t + k) = 0) → Q (some (iq_i 1)) (iq_uz (iq_uz (iq_uz g 79 t s) 80 t n) 77 1 0) l') (q0 : ¬ sf_ty t s n → Q (some (iq_i 0)) (iq_uz g 77 1 1) l) : iq_P N xs 34 0 [some (iq_r 77), some (iq_i t), some (iq_i s), some (iq_i n), none] [] g l Q := by
  have no : ¬ sf_ty t s n → iq_P N xs 33 0 [some (iq_r 77), some (iq_i 1)] [] g l (fun r g1 l2 => ∃ z3, r = some (iq_i z3) ∧ ((z3 = 0 ∨ z3 = 1) ∧ Q (some (iq_i z3)) g1 l2)) := fun c => sp33 (by omega) (fun h => by omega) (fun _ => ⟨_, rfl, .inl rfl, q0 c⟩)
  refine B34_77 _ _ _ _ _ (sp32 ht (fun c => ⟨_, rfl, by omega, fun h => by omega, fun _ => ⟨by omega, fun c1 => no (fun z => by have := z.2.1; omega), fun c1 => ⟨by omega, fun c2 => no (fun z => by have := z.2.1; omega), fun c2 => ⟨by omega, fun c3 => no (fun z => by have := z.2.2; omega), fun c3 => ⟨by omega, fun c4 => ⟨c, c, ?_⟩, fun c4 => no (fun z => by have := z.2.2; omega)⟩⟩⟩⟩⟩) (fun c => ⟨_, rfl, by omega, fun _ => no (fun z => c z.1), fun h => by omega⟩))
  have hy : sf_ty t s n := ⟨c, ⟨c1, c2⟩, c3, c4⟩
  exact sp34_p (l := l) hy (q1 hy) n.toNat 0 l (by omega) (fun _ _ => rfl) (fun _ _ => rfl) (fun i u w => by omega)
