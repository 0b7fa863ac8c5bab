/-! The model's trays by their sorts and lengths alone. -/
def sf_TM (g : iq_I) : Prop := ∀ n : Nat, n < 4 → (0 ≤ g 79 n ∧ g 79 n ≤ 3) ∧ (-1 ≤ g 80 n ∧ g 80 n ≤ 60)
theorem iq_TR.tm {g : iq_I} {l : iq_J} (h : iq_TR g l) : sf_TM g := fun n hn => ⟨(h n hn).2.2.1, (h n hn).2.2.2.1⟩
theorem sf_TMt {g : iq_I} (hT : sf_TM g) {t : Int} (h : 0 ≤ t ∧ t < 4) : (0 ≤ g 79 t ∧ g 79 t ≤ 3) ∧ (-1 ≤ g 80 t ∧ g 80 t ≤ 60) := by
  have z := hT t.toNat (by omega)
  rw [show ((t.toNat : Nat) : Int) = t by omega] at z
  exact z
theorem sp41w {N : Nat} {xs : Nat → Int32} {Q : iq_T} {g : iq_I} {l : iq_J} {t p : Int} (hT : sf_TM g) (ht : -2147483648 ≤ t ∧ t ≤ 2147483647) (hp : -2147483648 ≤ p ∧ p ≤ 2147483647) (q : Q (some (iq_i (sf_wt g t p))) g l) : iq_P N xs 41 0 [some (iq_r 77), some (iq_i t), some (iq_i p)] [] g l Q := by
  unfold sf_wt sf_wp at q
  refine B41_77 _ _ _ _ (sp32 ht (fun c => ⟨_, rfl, by omega, fun _ => ?_, fun h => by omega⟩) (fun c => ⟨_, rfl, by omega, fun h => by omega, fun _ => ?_⟩))
  · rw [if_pos c] at q
    have tR := sf_TMt hT c
    refine ⟨c, by omega, fun d => ⟨by omega, fun e => ?_, fun e => ⟨c, by omega, fun f => ?_, fun f => ?_⟩⟩, fun d => ?_⟩
    · rw [if_neg d, if_neg (by omega)] at q; exact q
    · rw [if_neg d, if_pos ⟨e, f⟩] at q; exact q
    · rw [if_neg d, if_neg (by omega)] at q; exact q
    · rw [if_pos d] at q; exact q
  · rw [if_neg c] at q; exact q
theorem sf_wt0w {g : iq_I} (hT : sf_TM g) {t p : Int} (h : sf_wt g t p = 0) : (0 ≤ t ∧ t < 4) ∧ 0 ≤ p ∧ p < g 80 t ∧ g 80 t ≤ 60 := by
  unfold sf_wt at h
  split at h
  · next c => exact ⟨c, (sf_wp0 h).1, (sf_wp0 h).2, (sf_TMt hT c).2.2⟩
  · omega
theorem mWritew {N : Nat} {xs : Nat → Int32} {Q : iq_T} {g : iq_I} {l : iq_J} {t p : Int} {v : Int64} (hT : sf_TM g) (ht : -2147483648 ≤ t ∧ t ≤ 2147483647) (hp : -2147483648 ≤ p ∧ p ≤ 2147483647) (q1 : sf_wt g t p = 0 → Q (some (iq_i 1)) (iq_uz g 77 1 0) (iq_uz l 81 (60 * t + p) (sf_cut (g 79 t) v))) (q0 : ¬ sf_wt g t p = 0 → Q (some (iq_i 0)) (iq_uz g 77 1 (sf_wt g t p)) l) : iq_P N xs 43 0 [some (iq_r 77), some (iq_i t), some (iq_i p), some (iq_l v), none, none] [] g l Q := by
  have hR := sf_wtR g t p
  refine B43_77 _ _ _ _ _ (sp41w hT ht hp ⟨_, rfl, by omega, fun c => sp33 (by omega) (fun h => absurd h c) (fun _ => ⟨_, rfl, .inl rfl, q0 c⟩), fun c => ?_⟩)
  have w := sf_wt0w hT c
  rw [c]
  exact ⟨w.1, sp42 (sf_TMt hT w.1).1 ⟨_, rfl, by omega, sp33 (by omega) (fun _ => ⟨_, rfl, .inr rfl, q1 c⟩) (fun h => by omega)⟩⟩
theorem mReadw {N : Nat} {xs : Nat → Int32} {Q : iq_T} {g : iq_I} {l : iq_J} {t p : Int} (hT : sf_TM g) (ht : -2147483648 ≤ t ∧ t ≤ 2147483647) (hp : -2147483648 ≤ p ∧ p ≤ 2147483647) (q1 : sf_wt g t p = 0 → Q (some (iq_l (l 81 (60 * t + p)))) (iq_uz g 77 1 0) l) (q0 : ¬ sf_wt g t p = 0 → Q (some (iq_l (-1))) (iq_uz g 77 1 (sf_wt g t p)) l) : iq_P N xs 47 0 [some (iq_r 77), some (iq_i t), some (iq_i p)] [] g l Q := by
  have hR := sf_wtR g t p
  refine B47_77 _ _ _ _ (sp41w hT ht hp ⟨_, rfl, by omega, fun c => ?_, fun c => ?_⟩)
  · have c' : sf_wt g t p = 0 := by omega
    have w := sf_wt0w hT c'
    rw [c']
    exact ⟨by omega, q1 c'⟩
  · rw [show Int64.ofNat 18446744073709551615 = -1 by decide]
    exact q0 (by omega)
section PMW
variable {N : Nat} {xs : Nat → Int32} {Q : iq_T} {g : iq_I} {l : iq_J} {a p b q n : Int}
theorem mPourw (hT : sf_TM g) (ha : -2147483648 ≤ a ∧ a ≤ 2147483647) (hp : -2147483648 ≤ p ∧ p ≤ 2147483647) (hb : -2147483648 ≤ b ∧ b ≤ 2147483647) (hq : -2147483648 ≤ q ∧ q ≤ 2147483647) (hn : -2147483648 ≤ n ∧ n ≤ 2147483647) (q1 : sf_wr g a p b q n = 0 → ∀ l' : iq_J, (∀ j, ¬ j = 81 → l' j = l j) → (∀ e, l' 81 e = if 60 * b + q ≤ e ∧ e < 60 * b + q + n then l 81 (60 * a + p + (e - (60 * b + q))) else l 81 e) → Q (some (iq_i 1)) (iq_uz g 77 1 0) l') (q0 : ¬ sf_wr g a p b q n = 0 → Q (some (iq_i 0)) (iq_uz g 77 1 (sf_wr g a p b q n)) l) : iq_P N xs 50 0 [some (iq_r 77), some (iq_i a), some (iq_i p), some (iq_i b), some (iq_i q), some (iq_i n), none, none] [] g l Q := by
  unfold sf_wr at q1 q0
  have no1 : ¬ (((0 ≤ a ∧ a < 4) ∧ 0 ≤ b ∧ b < 4) ∧ 0 ≤ p ∧ 0 ≤ q ∧ 0 ≤ n) → iq_P N xs 33 0 [some (iq_r 77), some (iq_i 1)] [] g l (fun r g1 l2 => ∃ z3, r = some (iq_i z3) ∧ ((z3 = 0 ∨ z3 = 1) ∧ Q (some (iq_i z3)) g1 l2)) := fun c => by
    rw [if_neg c] at q0
    exact sp33 (by omega) (fun h => by omega) (fun _ => ⟨_, rfl, .inl rfl, q0 (by omega)⟩)
  refine B50_77 _ _ _ _ _ _ _ (sp32 ha (fun ca => ⟨_, rfl, by omega, fun h => by omega, fun _ => sp32 hb (fun cb => ⟨_, rfl, by omega, fun h => by omega, fun _ => ⟨by omega, fun c => no1 (by omega), fun c1 => ⟨by omega, fun c => no1 (by omega), fun c2 => ⟨by omega, fun c3 => ?_, fun c => no1 (by omega)⟩⟩⟩⟩) (fun cb => ⟨_, rfl, by omega, fun _ => no1 (fun z => cb z.1.2), fun h => by omega⟩)⟩) (fun ca => ⟨_, rfl, by omega, fun _ => no1 (fun z => ca z.1.1), fun h => by omega⟩))
  rw [if_pos ⟨⟨ca, cb⟩, c1, c2, c3⟩] at q1 q0
  have tA := sf_TMt hT ca
  have tB := sf_TMt hT cb
  have no : ∀ w : Int, ¬ w = 0 → -2147483648 ≤ w ∧ w ≤ 2147483647 → Q (some (iq_i 0)) (iq_uz g 77 1 w) l → iq_P N xs 33 0 [some (iq_r 77), some (iq_i w)] [] g l (fun r g1 l2 => ∃ z3, r = some (iq_i z3) ∧ ((z3 = 0 ∨ z3 = 1) ∧ Q (some (iq_i z3)) g1 l2)) := fun w c r h => sp33 r (fun h => absurd h c) (fun _ => ⟨_, rfl, .inl rfl, h⟩)
  refine ⟨ca, by omega, fun d => no 2 (by omega) (by omega) ?_, fun d => ⟨cb, by omega, fun e => ⟨ca, cb, by omega, fun f => ⟨ca, by omega, fun u => ?_, fun u => ?_⟩, fun f => no 8 (by omega) (by omega) ?_⟩, fun e => no 2 (by omega) (by omega) ?_⟩⟩
  · rw [if_pos (.inl d)] at q0; exact q0 (by omega)
  · rw [if_neg (by omega), if_pos f, if_neg (by omega)] at q0
    exact B50_p109_77 _ _ _ _ _ _ _ (no 3 (by omega) (by omega) (q0 (by omega)))
  · refine B50_p95_77 _ _ _ _ _ _ _ ⟨cb, by omega, fun w => ?_, fun w => ?_⟩
    · rw [if_neg (by omega), if_pos f, if_pos (by omega)] at q1
      by_cases dd : q ≤ p
      · refine sp50_f (l := l) ca cb c1 c2 c3 (by omega) (by omega) dd (q1 rfl) n.toNat 0 l none (by omega) (fun _ _ => rfl) (fun e => ?_)
        rw [if_neg (by omega)]
      · refine sp50_b (l := l) ca cb c1 c2 c3 (by omega) (by omega) (by omega) (q1 rfl) n.toNat 0 l none (by omega) (fun _ _ => rfl) (fun e => ?_)
        rw [if_neg (by omega)]
    · rw [if_neg (by omega), if_pos f, if_neg (by omega)] at q0
      exact B50_p109_77 _ _ _ _ _ _ _ (no 3 (by omega) (by omega) (q0 (by omega)))
  · rw [if_neg (by omega), if_neg f] at q0; exact q0 (by omega)
  · rw [if_pos (.inr e)] at q0; exact q0 (by omega)
end PMW
