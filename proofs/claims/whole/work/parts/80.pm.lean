/-! pour in the model. -/
section PM
variable {N : Nat} {xs : Nat → Int32} {Q : iq_T} {g : iq_I} {l : iq_J} {a p b q n : Int}
theorem sp50_f (ha : 0 ≤ a ∧ a < 4) (hb : 0 ≤ b ∧ b < 4) (hp : 0 ≤ p) (hq : 0 ≤ q) (hn : 0 ≤ n) (h1 : p + n ≤ 60) (h2 : q + n ≤ 60) (hd : q ≤ p) (qq : ∀ l' : iq_J, (∀ j, ¬ j = 81 → l' j = l j) → (∀ e, l' 81 e = if 60 * b + q ≤ e ∧ e < 60 * b + q + n then l 81 (60 * a + p + (e - (60 * b + q))) else l 81 e) → Q (some (iq_i 1)) (iq_uz g 77 1 0) l') (m : Nat) : ∀ (v : Nat) (l1 : iq_J) (d7 : Option iq_V), (v : Int) + m = n → (∀ j, ¬ j = 81 → l1 j = l j) → (∀ e, l1 81 e = if 60 * b + q ≤ e ∧ e < 60 * b + q + v then l 81 (60 * a + p + (e - (60 * b + q))) else l 81 e) → iq_P N xs 50 118 [some (iq_r 77), some (iq_i a), some (iq_i p), some (iq_i b), some (iq_i q), some (iq_i n), some (iq_i v), d7] [] g l1 Q := by
  induction m with
  | zero =>
    intro v l1 d7 h x y
    rw [show n = v by omega] at qq
    exact B50_p118_77 _ _ _ _ _ _ _ _ _ ⟨by omega, fun _ => sp33 (by omega) (fun _ => ⟨_, rfl, .inr rfl, qq l1 x y⟩) (fun h => by omega), fun h => by omega⟩
  | succ m ih =>
    intro v l1 d7 h x y
    refine B50_p118_77 _ _ _ _ _ _ _ _ _ ⟨by omega, fun h => by omega, fun _ => ⟨by omega, fun _ => ⟨by omega, by omega, B50_p177_77 _ _ _ _ _ _ _ _ _ (ih (v + 1) _ _ (by omega) (sf_up x _ _) (fun e => ?_))⟩, fun h => by omega⟩⟩
    by_cases c : e = 60 * b + q + v
    · rw [if_pos (by omega), c]
      have z := y (60 * a + p + v)
      rw [if_neg (by omega)] at z
      rw [show (iq_uz l1 81 (60 * b + q + v) (l1 81 (60 * a + p + v))) 81 (60 * b + q + v) = l1 81 (60 * a + p + v) by simp [iq_uz], z]
      congr 1
      omega
    · rw [show (iq_uz l1 81 (60 * b + q + v) (l1 81 (60 * a + p + v))) 81 e = l1 81 e by simp [iq_uz, c], y e]
      by_cases d : 60 * b + q ≤ e ∧ e < 60 * b + q + v
      · rw [if_pos d, if_pos (by omega)]
      · rw [if_neg d, if_neg (by omega)]
theorem sp50_b (ha : 0 ≤ a ∧ a < 4) (hb : 0 ≤ b ∧ b < 4) (hp : 0 ≤ p) (hq : 0 ≤ q) (hn : 0 ≤ n) (h1 : p + n ≤ 60) (h2 : q + n ≤ 60) (hd : p < q) (qq : ∀ l' : iq_J, (∀ j, ¬ j = 81 → l' j = l j) → (∀ e, l' 81 e = if 60 * b + q ≤ e ∧ e < 60 * b + q + n then l 81 (60 * a + p + (e - (60 * b + q))) else l 81 e) → Q (some (iq_i 1)) (iq_uz g 77 1 0) l') (m : Nat) : ∀ (v : Nat) (l1 : iq_J) (d7 : Option iq_V), (v : Int) + m = n → (∀ j, ¬ j = 81 → l1 j = l j) → (∀ e, l1 81 e = if 60 * b + q + n - v ≤ e ∧ e < 60 * b + q + n then l 81 (60 * a + p + (e - (60 * b + q))) else l 81 e) → iq_P N xs 50 118 [some (iq_r 77), some (iq_i a), some (iq_i p), some (iq_i b), some (iq_i q), some (iq_i n), some (iq_i v), d7] [] g l1 Q := by
  induction m with
  | zero =>
    intro v l1 d7 h x y
    refine B50_p118_77 _ _ _ _ _ _ _ _ _ ⟨by omega, fun _ => sp33 (by omega) (fun _ => ⟨_, rfl, .inr rfl, qq l1 x (fun e => ?_)⟩) (fun h => by omega), fun h => by omega⟩
    rw [y e, show 60 * b + q + n - (v : Int) = 60 * b + q by omega]
  | succ m ih =>
    intro v l1 d7 h x y
    refine B50_p118_77 _ _ _ _ _ _ _ _ _ ⟨by omega, fun h => by omega, fun _ => ⟨by omega, fun h => by omega, fun _ => ⟨by omega, by omega, B50_p177_77 _ _ _ _ _ _ _ _ _ (ih (v + 1) _ _ (by omega) (sf_up x _ _) (fun e => ?_))⟩⟩⟩
    by_cases c : e = 60 * b + q + (n - 1 - v)
    · rw [if_pos (by omega), c]
      have z := y (60 * a + p + (n - 1 - v))
      rw [if_neg (by omega)] at z
      rw [show (iq_uz l1 81 (60 * b + q + (n - 1 - v)) (l1 81 (60 * a + p + (n - 1 - v)))) 81 (60 * b + q + (n - 1 - v)) = l1 81 (60 * a + p + (n - 1 - v)) by simp [iq_uz], z]
      congr 1
      omega
    · rw [show (iq_uz l1 81 (60 * b + q + (n - 1 - v)) (l1 81 (60 * a + p + (n - 1 - v)))) 81 e = l1 81 e by simp [iq_uz, c], y e]
      by_cases d : 60 * b + q + n - v ≤ e ∧ e < 60 * b + q + n
      · rw [if_pos d, if_pos (by omega)]
      · rw [if_neg d, if_neg (by omega)]
theorem mPour (hT : iq_TR g l) (ha : -2147483648 ≤ a ∧ a ≤ 2147483647) (hp : -2147483648 ≤ p ∧ p ≤ 2147483647) (hb : -2147483648 ≤ b ∧ b ≤ 2147483647) (hq : -2147483648 ≤ q ∧ q ≤ 2147483647) (hn : -2147483648 ≤ n ∧ n ≤ 2147483647) (q1 : sf_wr g a p b q n = 0 → ∀ l' : iq_J, (∀ j, ¬ j = 81 → l' j = l j) → (∀ e, l' 81 e = if 60 * b + q ≤ e ∧ e < 60 * b + q + n then l 81 (60 * a + p + (e - (60 * b + q))) else l 81 e) → Q (some (iq_i 1)) (iq_uz g 77 1 0) l') (q0 : ¬ sf_wr g a p b q n = 0 → Q (some (iq_i 0)) (iq_uz g 77 1 (sf_wr g a p b q n)) l) : iq_P N xs 50 0 [some (iq_r 77), some (iq_i a), some (iq_i p), some (iq_i b), some (iq_i q), some (iq_i n), none, none] [] g l Q := by
  unfold sf_wr at q1 q0
  have no1 : ¬ (((0 ≤ a ∧ a < 4) ∧ 0 ≤ b ∧ b < 4) ∧ 0 ≤ p ∧ 0 ≤ q ∧ 0 ≤ n) → iq_P N xs 33 0 [some (iq_r 77), some (iq_i 1)] [] g l (fun r g1 l2 => ∃ z3, r = some (iq_i z3) ∧ ((z3 = 0 ∨ z3 = 1) ∧ Q (some (iq_i z3)) g1 l2)) := fun c => by
    rw [if_neg c] at q0
    exact sp33 (by omega) (fun h => by omega) (fun _ => ⟨_, rfl, .inl rfl, q0 (by omega)⟩)
  refine B50_77 _ _ _ _ _ _ _ (sp32 ha (fun ca => ⟨_, rfl, by omega, fun h => by omega, fun _ => sp32 hb (fun cb => ⟨_, rfl, by omega, fun h => by omega, fun _ => ⟨by omega, fun c => no1 (by omega), fun c1 => ⟨by omega, fun c => no1 (by omega), fun c2 => ⟨by omega, fun c3 => ?_, fun c => no1 (by omega)⟩⟩⟩⟩) (fun cb => ⟨_, rfl, by omega, fun _ => no1 (fun z => cb z.1.2), fun h => by omega⟩)⟩) (fun ca => ⟨_, rfl, by omega, fun _ => no1 (fun z => ca z.1.1), fun h => by omega⟩))
  rw [if_pos ⟨⟨ca, cb⟩, c1, c2, c3⟩] at q1 q0
  have tA := sf_TRt hT ca
  have tB := sf_TRt hT cb
  have no : ∀ w : Int, ¬ w = 0 → -2147483648 ≤ w ∧ w ≤ 2147483647 → Q (some (iq_i 0)) (iq_uz g 77 1 w) l → iq_P N xs 33 0 [some (iq_r 77), some (iq_i w)] [] g l (fun r g1 l2 => ∃ z3, r = some (iq_i z3) ∧ ((z3 = 0 ∨ z3 = 1) ∧ Q (some (iq_i z3)) g1 l2)) := fun w c r h => sp33 r (fun h => absurd h c) (fun _ => ⟨_, rfl, .inl rfl, h⟩)
  refine ⟨ca, by omega, fun d => no 2 (by omega) (by omega) ?_, fun d => ⟨cb, by omega, fun e => ⟨ca, cb, by omega, fun f => ⟨ca, by omega, fun u => ?_, fun u => ?_⟩, fun f => no 8 (by omega) (by omega) ?_⟩, fun e => no 2 (by omega) (by omega) ?_⟩⟩
  · rw [if_pos (.inl d)] at q0; exact q0 (by omega)
  · rw [if_neg (by omega), if_pos f, if_neg (by omega)] at q0
    exact B50_p109_77 _ _ _ _ _ _ _ (no 3 (by omega) (by omega) (q0 (by omega)))
  · refine B50_p95_77 _ _ _ _ _ _ _ ⟨cb, by omega, fun w => ?_, fun w => ?_⟩
    · rw [if_neg (by omega), if_pos f, if_pos (by omega)] at q1
      by_cases dd : q ≤ p
      · refine sp50_f (l := l) ca cb c1 c2 c3 (by omega) (by omega) dd (q1 rfl) n.toNat 0 l none (by omega) (fun _ _ => rfl) (fun e => ?_)
        rw [if_neg (by omega)]
      · refine sp50_b (l := l) ca cb c1 c2 c3 (by omega) (by omega) (by omega) (q1 rfl) n.toNat 0 l none (by omega) (fun _ _ => rfl) (fun e => ?_)
        rw [if_neg (by omega)]
    · rw [if_neg (by omega), if_pos f, if_neg (by omega)] at q0
      exact B50_p109_77 _ _ _ _ _ _ _ (no 3 (by omega) (by omega) (q0 (by omega)))
  · rw [if_neg (by omega), if_neg f] at q0; exact q0 (by omega)
  · rw [if_pos (.inr e)] at q0; exact q0 (by omega)
end PM
