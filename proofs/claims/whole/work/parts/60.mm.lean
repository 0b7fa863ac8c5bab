/-! Mistuned in the model. -/
section MM
variable {N : Nat} {xs : Nat → Int32} {Q : iq_T} {g : iq_I} {l : iq_J}
theorem sp310_c {n k o : Int} (q : ∀ l' : iq_J, (∀ j, ¬ j = 99 → l' j = l j) → (∀ j, 0 ≤ j → j ≤ 12 → l' 99 j = sf_rw o 0 j) → iq_P N xs 310 68 [some (iq_r 77), some (iq_i n), some (iq_i k), some (iq_l 1), none, some (iq_i 0), none, none] [] g l' Q) (m : Nat) : ∀ (i : Nat) (l1 : iq_J), i + m = 13 → (∀ j, ¬ j = 99 → l1 j = l j) → (∀ j : Int, 0 ≤ j → j < i → l1 99 j = sf_rw o 0 j) → iq_P N xs 310 35 [some (iq_r 77), some (iq_i n), some (iq_i k), some (iq_l 1), none, some (iq_i i), none, none] [] g l1 Q := by
  induction m with
  | zero =>
    intro i l1 h a b
    exact B310_p35_77 _ _ _ _ _ _ ⟨by omega, fun _ => q l1 a (fun j x y => b j x (by omega)), fun h => by omega⟩
  | succ m ih =>
    intro i l1 h a b
    have nx : ∀ v : Int64, v = sf_rw o 0 i → iq_P N xs 310 35 [some (iq_r 77), some (iq_i n), some (iq_i k), some (iq_l 1), none, some (iq_i ((i : Int) + 1)), none, none] [] g (iq_uz l1 99 i v) Q := by
      intro v hv
      refine ih (i + 1) _ (by omega) (sf_up a _ _) (fun j x y => ?_)
      by_cases c : j = i
      · rw [c, ← hv]; simp [iq_uz]
      · rw [← b j x (by omega)]; simp [iq_uz, c]
    refine B310_p35_77 _ _ _ _ _ _ ⟨by omega, fun h => by omega, fun _ => ⟨by omega, fun c => ⟨by omega, nx _ ?_⟩, fun c => ⟨by omega, nx _ ?_⟩⟩⟩
    · rw [sf_rw, if_neg c]
    · rw [sf_rw, if_pos c]
theorem sp310_j {n k : Int} {x : Int64} {t : Nat} (q : ∀ (l' : iq_J) (d7 : Option iq_V), (∀ j, ¬ j = 99 → l' j = l j) → (∀ j, 0 ≤ j → j ≤ 12 → l' 99 j = sf_rw (g 78 0) (t + 1) j) → iq_P N xs 310 68 [some (iq_r 77), some (iq_i n), some (iq_i k), some (iq_l (x * Int64.ofNat 16)), none, some (iq_i ((t : Int) + 1)), d7, none] [] g l' Q) (m : Nat) : ∀ l1 : iq_J, m ≤ 13 → (∀ j, ¬ j = 99 → l1 j = l j) → (∀ j : Int, 0 ≤ j → j < m → l1 99 j = sf_rw (g 78 0) t j) → (∀ j : Int, m ≤ j → j ≤ 12 → l1 99 j = sf_rw (g 78 0) (t + 1) j) → iq_P N xs 310 78 [some (iq_r 77), some (iq_i n), some (iq_i k), some (iq_l x), none, some (iq_i t), some (iq_i ((m : Int) + (-1))), none] [] g l1 Q := by
  induction m with
  | zero =>
    intro l1 h a b c
    exact B310_p78_77 _ _ _ _ _ _ _ ⟨by omega, fun _ => q _ _ a (fun j x y => c j (by omega) y), fun h => by omega⟩
  | succ m ih =>
    intro l1 h a b c
    rw [show ((m + 1 : Nat) : Int) + -1 = m by omega]
    have nx : ∀ v : Int64, v = sf_rw (g 78 0) (t + 1) m → iq_P N xs 310 78 [some (iq_r 77), some (iq_i n), some (iq_i k), some (iq_l x), none, some (iq_i t), some (iq_i ((m : Int) + (-1))), none] [] g (iq_uz l1 99 m v) Q := by
      intro v hv
      refine ih _ (by omega) (sf_up a _ _) (fun j x y => ?_) (fun j x y => ?_)
      · have e : ¬ j = (m : Int) := by omega
        rw [← b j x (by omega)]; simp [iq_uz, e]
      · by_cases e : j = (m : Int)
        · rw [e, ← hv]; simp [iq_uz]
        · rw [← c j (by omega) y]; simp [iq_uz, e]
    refine B310_p78_77 _ _ _ _ _ _ _ ⟨by omega, fun h => by omega, fun _ => ⟨by omega, by omega, fun e => ⟨by omega, by omega, B310_p138_77 _ _ _ _ _ _ _ (nx _ ?_)⟩, fun e => ⟨by omega, B310_p138_77 _ _ _ _ _ _ _ (nx _ ?_)⟩⟩⟩
    · rw [sf_rw, if_neg e, b m (by omega) (by omega), b ((m : Int) - 1) (by omega) (by omega)]
    · rw [sf_rw, if_pos e, b m (by omega) (by omega), Int64.add_zero, e]
theorem sp310_t {n : Nat} {k : Int} (hn : n ≤ 12) (q : ∀ (l' : iq_J), (∀ j, ¬ j = 99 → l' j = l j) → (∀ j, 0 ≤ j → j ≤ 12 → l' 99 j = sf_rw (g 78 0) n j) → iq_P N xs 310 159 [some (iq_r 77), some (iq_i n), some (iq_i k), some (iq_l (sf_al n)), none, some (iq_l 0), none, some (iq_i k)] [] g l' Q) (m : Nat) : ∀ (t : Nat) (l1 : iq_J) (d7 : Option iq_V), t + m = n → (∀ j, ¬ j = 99 → l1 j = l j) → (∀ j, 0 ≤ j → j ≤ 12 → l1 99 j = sf_rw (g 78 0) t j) → iq_P N xs 310 68 [some (iq_r 77), some (iq_i n), some (iq_i k), some (iq_l (sf_al t)), none, some (iq_i t), d7, none] [] g l1 Q := by
  induction m with
  | zero =>
    intro t l1 d7 h a b
    rw [show t = n by omega] at b ⊢
    exact B310_p68_77 _ _ _ _ _ _ _ ⟨by omega, fun _ => q l1 a b, fun h => by omega⟩
  | succ m ih =>
    intro t l1 d7 h a b
    refine B310_p68_77 _ _ _ _ _ _ _ ⟨by omega, fun h => by omega, fun _ => ?_⟩
    exact sp310_j (fun l' d7 hl hb => ih (t + 1) l' d7 (by omega) hl hb) 13 l1 (by omega) a (fun j x y => b j x (by omega)) (fun j x y => by omega)
theorem sp310_e {n o : Int} {k t : Nat} {x : Int64} (hr : ∀ j, 0 ≤ j → j ≤ 12 → l 99 j = sf_rw o t j) (hk : k ≤ 12) (q : iq_P N xs 303 0 [some (iq_r 77), some (iq_l (sf_en o t k (13 - k))), none, some (iq_l x), none, none, none, none, none, none, none] [] g l (fun r g1 l2 => ∃ z3, r = some (iq_i z3) ∧ ((z3 = 0 ∨ z3 = 1) ∧ Q (some (iq_i z3)) g1 l2))) (m : Nat) : ∀ i : Nat, k + i + m = 13 → iq_P N xs 310 159 [some (iq_r 77), some (iq_i n), some (iq_i k), some (iq_l x), none, some (iq_l (sf_en o t k i)), none, some (iq_i ((k : Int) + i))] [] g l Q := by
  induction m with
  | zero =>
    intro i h
    rw [show 13 - k = i by omega] at q
    exact B310_p159_77 _ _ _ _ _ _ _ ⟨by omega, fun _ => q, fun h => by omega⟩
  | succ m ih =>
    intro i h
    have nx := ih (i + 1) (by omega)
    rw [sf_en, ← hr _ (by omega) (by omega)] at nx
    refine B310_p159_77 _ _ _ _ _ _ _ ⟨by omega, fun h => by omega, fun _ => ⟨by omega, ?_⟩⟩
    rw [show (k : Int) + i + 1 = (k : Int) + ((i + 1 : Nat) : Int) by omega]
    exact nx
end MM
theorem iq_KK99 {g : iq_I} {l l' : iq_J} (h : ∀ j, ¬ j = 99 → l' j = l j) : iq_KK g l g l' := by
  refine ⟨rfl, iq_co_of (fun j k hb => ?_), ?_, ?_, ?_, ?_⟩
  · rw [h j (fun e => by rw [e] at hb; simp [iq_sx] at hb)]
  · rw [h 0 (by decide)]
  · rw [h 0 (by decide)]
  · rw [h 77 (by decide)]
  · rw [h 77 (by decide)]
theorem mMistuned {N : Nat} {xs : Nat → Int32} {Q : iq_T} {g : iq_I} {l : iq_J} {n k : Int} (hs : iq_SR g l 23 24 25 0) (hn : -2147483648 ≤ n ∧ n ≤ 2147483647) (hk : -2147483648 ≤ k ∧ k ≤ 2147483647) (q1 : (0 ≤ n ∧ n ≤ 12) ∧ 0 ≤ k ∧ k ≤ 12 → ∀ (g' : iq_I) (l' : iq_J), iq_KF g l g' l' → g' 0 0 = g 0 0 → g' 77 1 = 0 → l' 77 2 = (aMistuned (g 24 0) n k).1 → l' 77 3 = (aMistuned (g 24 0) n k).2 → l' 0 1 = l 0 1 → l' 0 2 = l 0 2 → Q (some (iq_i 1)) g' l') (q0 : ¬ ((0 ≤ n ∧ n ≤ 12) ∧ 0 ≤ k ∧ k ≤ 12) → ∀ (g' : iq_I) (l' : iq_J), iq_KK g l g' l' → g' 0 0 = g 0 0 → g' 77 1 = 1 → Q (some (iq_i 0)) g' l') : iq_P N xs 310 0 [some (iq_r 77), some (iq_i n), some (iq_i k), none, none, none, none, none] [] g l Q := by
  have hp0 := hs.1.1
  have e0 := hs.p78 0 (by omega) (by omega)
  have en := iq_i2lv hn.1 hn.2
  have ek := iq_i2lv hk.1 hk.2
  have e12 : (Int64.ofNat 12).toInt = 12 := by decide
  have no : ¬ ((0 ≤ n ∧ n ≤ 12) ∧ 0 ≤ k ∧ k ≤ 12) → iq_P N xs 33 0 [some (iq_r 77), some (iq_i 1)] [] g l (fun r g1 l2 => ∃ z3, r = some (iq_i z3) ∧ ((z3 = 0 ∨ z3 = 1) ∧ Q (some (iq_i z3)) g1 l2)) := fun c => sp33 (by omega) (fun h => by omega) (fun _ => ⟨_, rfl, .inl rfl, q0 c _ _ ((iq_KK.refl _ _).uz iq_sx771) (by simp [iq_uz]) (by simp [iq_uz])⟩)
  refine B310_77 _ _ _ _ (sp149 (fun a1 a2 => ⟨_, rfl, by omega, fun h => by omega, fun _ => sp149 (fun a3 a4 => ⟨_, rfl, by omega, fun _ => ?_, fun h => by omega⟩) (fun a => ⟨_, rfl, by omega, fun h => by omega, fun _ => no ?_⟩)⟩) (fun a => ⟨_, rfl, by omega, fun _ => no ?_, fun h => by omega⟩))
  · rw [en] at a1 a2
    rw [ek] at a3 a4
    rw [iq_of640] at a1 a3
    rw [e12] at a2 a4
    have q1 := q1 ⟨⟨a1, a2⟩, a3, a4⟩
    obtain ⟨n', rfl⟩ : ∃ z : Nat, n = z := ⟨n.toNat, by omega⟩
    obtain ⟨k', rfl⟩ : ∃ z : Nat, k = z := ⟨k.toNat, by omega⟩
    refine sp310_c (l := l) (o := g 78 0) (fun l1 hl hb => sp310_t (l := l) (by omega) (fun l2 hl2 hb2 => ?_) n' 0 l1 none (by omega) hl hb) 13 0 l (by omega) (fun _ _ => rfl) (fun j x y => by omega)
    rw [e0] at hb2
    have := sp310_e (N := N) (xs := xs) (Q := Q) (g := g) (n := n') (x := sf_al n') hb2 (show k' ≤ 12 by omega) (sp303 (sf_mtfb (by omega) (by omega) (by omega)) ⟨_, rfl, .inr rfl, q1 _ _ ((iq_KK99 (g := g) hl2).tellm 0 _ _) (by simp [iq_uz]) (by simp [iq_uz]) (by simp [iq_uz]; rfl) (by simp [iq_uz]; rfl) (by simp [iq_uz]; rw [hl2 0 (by decide)]) (by simp [iq_uz]; rw [hl2 0 (by decide)])⟩) (13 - k') 0 (by omega)
    rw [sf_en, show (k' : Int) + ((0 : Nat) : Int) = k' by omega] at this
    exact this
  · rw [ek, iq_of640, e12] at a
    omega
  · rw [en, iq_of640, e12] at a
    omega
