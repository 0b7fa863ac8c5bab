/-! copyScale. -/
/-- why a run of a tray is wrong -/
def sf_rn2 (n m : Int) : Int := if n = -1 then 2 else if m ≤ n then 0 else 3
theorem sf_rn2R (n m : Int) : 0 ≤ sf_rn2 n m ∧ sf_rn2 n m ≤ 3 := by unfold sf_rn2; split <;> (try split) <;> omega
theorem sf_rn20 {n m : Int} (h : sf_rn2 n m = 0) : ¬ n = -1 ∧ m ≤ n := by
  unfold sf_rn2 at h
  split at h
  · omega
  · split at h
    · exact ⟨by assumption, by assumption⟩
    · omega
theorem sf_addl {p m : Int} (hp : -2147483648 ≤ p ∧ p ≤ 2147483647) (hm : -2147483648 ≤ m ∧ m ≤ 2147483647) : (iq_i2l p + iq_i2l m).toInt = p + m := by
  rw [Int64.toInt_add, iq_i2lv hp.1 hp.2, iq_i2lv hm.1 hm.2]
  exact Int.bmod_eq_of_le (by omega) (by omega)
theorem sp48_2 {N : Nat} {xs : Nat → Int32} {Q : iq_T} {g : iq_I} {l : iq_J} {p m : Int} (hp : -2147483648 ≤ p ∧ p ≤ 2147483647) (hm : -2147483648 ≤ m ∧ m ≤ 2147483647) (hn : -1 ≤ g 2 2 ∧ g 2 2 ≤ 60) (q1 : 0 ≤ p ∧ 0 ≤ m ∧ p + m ≤ g 2 2 → Q (some (iq_i 1)) g l) (q0 : ¬ (0 ≤ p ∧ 0 ≤ m ∧ p + m ≤ g 2 2) → Q (some (iq_i 0)) g l) : iq_P N xs 48 0 [some (iq_r 2), some (iq_i p), some (iq_i m)] [] g l Q := by
  have e := sf_addl hp hm
  have en : (iq_i2l (g 2 2)).toInt = g 2 2 := iq_i2lv (by omega) (by omega)
  refine B48_2 _ _ _ _ ⟨by omega, fun c => q0 (by omega), fun c1 => ⟨by omega, fun c => q0 (by omega), fun c2 => ⟨iq_lcR _ _, fun c => ?_, fun c => ?_⟩⟩⟩
  · rw [iq_lcgt, e, en] at c
    exact q0 (by omega)
  · rw [iq_lcle, e, en] at c
    exact q1 ⟨c1, c2, c⟩
theorem sp311_2 {N : Nat} {xs : Nat → Int32} {Q : iq_T} {g : iq_I} {l : iq_J} {m : Int} (hm : 0 ≤ m ∧ m ≤ 2147483647) (hn : -1 ≤ g 2 2 ∧ g 2 2 ≤ 60) (q : Q (some (iq_i (sf_rn2 (g 2 2) m))) g l) : iq_P N xs 311 0 [some (iq_r 2), some (iq_i m)] [] g l Q := by
  unfold sf_rn2 at q
  refine B311_2 _ _ _ (B35_2 _ _ ⟨by omega, fun c => ⟨_, rfl, by omega, fun _ => sp48_2 (by omega) (by omega) hn (fun d => ⟨_, rfl, by omega, fun h => by omega, fun _ => ?_⟩) (fun d => ⟨_, rfl, by omega, fun _ => ?_, fun h => by omega⟩), fun h => by omega⟩, fun c => ⟨_, rfl, by omega, fun h => by omega, fun _ => ?_⟩⟩)
  · rw [if_neg c, if_pos (by omega)] at q; exact q
  · rw [if_neg c, if_neg (by omega)] at q; exact q
  · rw [if_pos c] at q; exact q
theorem sp312_2 {N : Nat} {xs : Nat → Int32} {Q : iq_T} {g : iq_I} {l : iq_J} {t m z : Int} {T : Int → Int} (hs : 0 ≤ g 2 1 ∧ g 2 1 ≤ 3) (hn : -1 ≤ g 2 2 ∧ g 2 2 ≤ 60) (hm : 0 ≤ m ∧ m ≤ g 2 2) (hr : iq_RG g) (h3 : g 31 3 = m) (hT : ∀ d, 0 ≤ d → d < m → g 32 d = T d) (q : ∀ l' : iq_J, (∀ j, ¬ j = 3 → l' j = l j) → (∀ k, 0 ≤ k → k < m → l' 3 k = sf_cut (g 2 1) (iq_i2l (T k))) → (∀ k, ¬ (0 ≤ k ∧ k < m) → l' 3 k = l 3 k) → Q (some (iq_i m)) (iq_uz g 0 0 0) l') (n : Nat) : ∀ (v : Nat) (l1 : iq_J), (v : Int) + n = m → (∀ j, ¬ j = 3 → l1 j = l j) → (∀ k : Int, 0 ≤ k → k < v → l1 3 k = sf_cut (g 2 1) (iq_i2l (T k))) → (∀ k : Int, ¬ (0 ≤ k ∧ k < v) → l1 3 k = l 3 k) → iq_P N xs 312 46 [some (iq_r 0), some (iq_i t), some (iq_r 2), some (iq_i m), some (iq_i z), some (iq_r 31), some (iq_i v)] [] g l1 Q := by
  induction n with
  | zero =>
    intro v l1 h x y w
    rw [show m = v by omega] at q ⊢
    exact B312_h46_2 _ _ _ _ _ _ ⟨by omega, fun _ => sp90 ⟨_, rfl, q l1 x y w⟩, fun h => by omega⟩
  | succ n ih =>
    intro v l1 h x y w
    refine B312_h46_2 _ _ _ _ _ _ ⟨by omega, fun h => by omega, fun _ => sp138 hr ⟨by omega, by omega⟩ ⟨_, rfl, sp39_2 hs hn ⟨by omega, by omega⟩ ⟨rfl, ?_⟩⟩⟩
    rw [hT v (by omega) (by omega)]
    refine ih (v + 1) _ (by omega) (sf_up x _ _) (fun k u i => ?_) (fun k u => ?_)
    · by_cases e : k = v
      · rw [e]; simp [iq_uz]
      · rw [← y k u (by omega)]; simp [iq_uz, e]
    · have e : ¬ k = (v : Int) := by omega
      rw [← w k (by omega)]; simp [iq_uz, e]
theorem sp48_4 {N : Nat} {xs : Nat → Int32} {Q : iq_T} {g : iq_I} {l : iq_J} {p m : Int} (hp : -2147483648 ≤ p ∧ p ≤ 2147483647) (hm : -2147483648 ≤ m ∧ m ≤ 2147483647) (hn : -1 ≤ g 4 2 ∧ g 4 2 ≤ 60) (q1 : 0 ≤ p ∧ 0 ≤ m ∧ p + m ≤ g 4 2 → Q (some (iq_i 1)) g l) (q0 : ¬ (0 ≤ p ∧ 0 ≤ m ∧ p + m ≤ g 4 2) → Q (some (iq_i 0)) g l) : iq_P N xs 48 0 [some (iq_r 4), some (iq_i p), some (iq_i m)] [] g l Q := by
  have e := sf_addl hp hm
  have en : (iq_i2l (g 4 2)).toInt = g 4 2 := iq_i2lv (by omega) (by omega)
  refine B48_4 _ _ _ _ ⟨by omega, fun c => q0 (by omega), fun c1 => ⟨by omega, fun c => q0 (by omega), fun c2 => ⟨iq_lcR _ _, fun c => ?_, fun c => ?_⟩⟩⟩
  · rw [iq_lcgt, e, en] at c
    exact q0 (by omega)
  · rw [iq_lcle, e, en] at c
    exact q1 ⟨c1, c2, c⟩
theorem sp311_4 {N : Nat} {xs : Nat → Int32} {Q : iq_T} {g : iq_I} {l : iq_J} {m : Int} (hm : 0 ≤ m ∧ m ≤ 2147483647) (hn : -1 ≤ g 4 2 ∧ g 4 2 ≤ 60) (q : Q (some (iq_i (sf_rn2 (g 4 2) m))) g l) : iq_P N xs 311 0 [some (iq_r 4), some (iq_i m)] [] g l Q := by
  unfold sf_rn2 at q
  refine B311_4 _ _ _ (B35_4 _ _ ⟨by omega, fun c => ⟨_, rfl, by omega, fun _ => sp48_4 (by omega) (by omega) hn (fun d => ⟨_, rfl, by omega, fun h => by omega, fun _ => ?_⟩) (fun d => ⟨_, rfl, by omega, fun _ => ?_, fun h => by omega⟩), fun h => by omega⟩, fun c => ⟨_, rfl, by omega, fun h => by omega, fun _ => ?_⟩⟩)
  · rw [if_neg c, if_pos (by omega)] at q; exact q
  · rw [if_neg c, if_neg (by omega)] at q; exact q
  · rw [if_pos c] at q; exact q
theorem sp312_4 {N : Nat} {xs : Nat → Int32} {Q : iq_T} {g : iq_I} {l : iq_J} {t m z : Int} {T : Int → Int} (hs : 0 ≤ g 4 1 ∧ g 4 1 ≤ 3) (hn : -1 ≤ g 4 2 ∧ g 4 2 ≤ 60) (hm : 0 ≤ m ∧ m ≤ g 4 2) (hr : iq_RG g) (h3 : g 31 3 = m) (hT : ∀ d, 0 ≤ d → d < m → g 32 d = T d) (q : ∀ l' : iq_J, (∀ j, ¬ j = 5 → l' j = l j) → (∀ k, 0 ≤ k → k < m → l' 5 k = sf_cut (g 4 1) (iq_i2l (T k))) → (∀ k, ¬ (0 ≤ k ∧ k < m) → l' 5 k = l 5 k) → Q (some (iq_i m)) (iq_uz g 0 0 0) l') (n : Nat) : ∀ (v : Nat) (l1 : iq_J), (v : Int) + n = m → (∀ j, ¬ j = 5 → l1 j = l j) → (∀ k : Int, 0 ≤ k → k < v → l1 5 k = sf_cut (g 4 1) (iq_i2l (T k))) → (∀ k : Int, ¬ (0 ≤ k ∧ k < v) → l1 5 k = l 5 k) → iq_P N xs 312 46 [some (iq_r 0), some (iq_i t), some (iq_r 4), some (iq_i m), some (iq_i z), some (iq_r 31), some (iq_i v)] [] g l1 Q := by
  induction n with
  | zero =>
    intro v l1 h x y w
    rw [show m = v by omega] at q ⊢
    exact B312_h46_4 _ _ _ _ _ _ ⟨by omega, fun _ => sp90 ⟨_, rfl, q l1 x y w⟩, fun h => by omega⟩
  | succ n ih =>
    intro v l1 h x y w
    refine B312_h46_4 _ _ _ _ _ _ ⟨by omega, fun h => by omega, fun _ => sp138 hr ⟨by omega, by omega⟩ ⟨_, rfl, sp39_4 hs hn ⟨by omega, by omega⟩ ⟨rfl, ?_⟩⟩⟩
    rw [hT v (by omega) (by omega)]
    refine ih (v + 1) _ (by omega) (sf_up x _ _) (fun k u i => ?_) (fun k u => ?_)
    · by_cases e : k = v
      · rw [e]; simp [iq_uz]
      · rw [← y k u (by omega)]; simp [iq_uz, e]
    · have e : ¬ k = (v : Int) := by omega
      rw [← w k (by omega)]; simp [iq_uz, e]
theorem sp48_6 {N : Nat} {xs : Nat → Int32} {Q : iq_T} {g : iq_I} {l : iq_J} {p m : Int} (hp : -2147483648 ≤ p ∧ p ≤ 2147483647) (hm : -2147483648 ≤ m ∧ m ≤ 2147483647) (hn : -1 ≤ g 6 2 ∧ g 6 2 ≤ 60) (q1 : 0 ≤ p ∧ 0 ≤ m ∧ p + m ≤ g 6 2 → Q (some (iq_i 1)) g l) (q0 : ¬ (0 ≤ p ∧ 0 ≤ m ∧ p + m ≤ g 6 2) → Q (some (iq_i 0)) g l) : iq_P N xs 48 0 [some (iq_r 6), some (iq_i p), some (iq_i m)] [] g l Q := by
  have e := sf_addl hp hm
  have en : (iq_i2l (g 6 2)).toInt = g 6 2 := iq_i2lv (by omega) (by omega)
  refine B48_6 _ _ _ _ ⟨by omega, fun c => q0 (by omega), fun c1 => ⟨by omega, fun c => q0 (by omega), fun c2 => ⟨iq_lcR _ _, fun c => ?_, fun c => ?_⟩⟩⟩
  · rw [iq_lcgt, e, en] at c
    exact q0 (by omega)
  · rw [iq_lcle, e, en] at c
    exact q1 ⟨c1, c2, c⟩
theorem sp311_6 {N : Nat} {xs : Nat → Int32} {Q : iq_T} {g : iq_I} {l : iq_J} {m : Int} (hm : 0 ≤ m ∧ m ≤ 2147483647) (hn : -1 ≤ g 6 2 ∧ g 6 2 ≤ 60) (q : Q (some (iq_i (sf_rn2 (g 6 2) m))) g l) : iq_P N xs 311 0 [some (iq_r 6), some (iq_i m)] [] g l Q := by
  unfold sf_rn2 at q
  refine B311_6 _ _ _ (B35_6 _ _ ⟨by omega, fun c => ⟨_, rfl, by omega, fun _ => sp48_6 (by omega) (by omega) hn (fun d => ⟨_, rfl, by omega, fun h => by omega, fun _ => ?_⟩) (fun d => ⟨_, rfl, by omega, fun _ => ?_, fun h => by omega⟩), fun h => by omega⟩, fun c => ⟨_, rfl, by omega, fun h => by omega, fun _ => ?_⟩⟩)
  · rw [if_neg c, if_pos (by omega)] at q; exact q
  · rw [if_neg c, if_neg (by omega)] at q; exact q
  · rw [if_pos c] at q; exact q
theorem sp312_6 {N : Nat} {xs : Nat → Int32} {Q : iq_T} {g : iq_I} {l : iq_J} {t m z : Int} {T : Int → Int} (hs : 0 ≤ g 6 1 ∧ g 6 1 ≤ 3) (hn : -1 ≤ g 6 2 ∧ g 6 2 ≤ 60) (hm : 0 ≤ m ∧ m ≤ g 6 2) (hr : iq_RG g) (h3 : g 31 3 = m) (hT : ∀ d, 0 ≤ d → d < m → g 32 d = T d) (q : ∀ l' : iq_J, (∀ j, ¬ j = 7 → l' j = l j) → (∀ k, 0 ≤ k → k < m → l' 7 k = sf_cut (g 6 1) (iq_i2l (T k))) → (∀ k, ¬ (0 ≤ k ∧ k < m) → l' 7 k = l 7 k) → Q (some (iq_i m)) (iq_uz g 0 0 0) l') (n : Nat) : ∀ (v : Nat) (l1 : iq_J), (v : Int) + n = m → (∀ j, ¬ j = 7 → l1 j = l j) → (∀ k : Int, 0 ≤ k → k < v → l1 7 k = sf_cut (g 6 1) (iq_i2l (T k))) → (∀ k : Int, ¬ (0 ≤ k ∧ k < v) → l1 7 k = l 7 k) → iq_P N xs 312 46 [some (iq_r 0), some (iq_i t), some (iq_r 6), some (iq_i m), some (iq_i z), some (iq_r 31), some (iq_i v)] [] g l1 Q := by
  induction n with
  | zero =>
    intro v l1 h x y w
    rw [show m = v by omega] at q ⊢
    exact B312_h46_6 _ _ _ _ _ _ ⟨by omega, fun _ => sp90 ⟨_, rfl, q l1 x y w⟩, fun h => by omega⟩
  | succ n ih =>
    intro v l1 h x y w
    refine B312_h46_6 _ _ _ _ _ _ ⟨by omega, fun h => by omega, fun _ => sp138 hr ⟨by omega, by omega⟩ ⟨_, rfl, sp39_6 hs hn ⟨by omega, by omega⟩ ⟨rfl, ?_⟩⟩⟩
    rw [hT v (by omega) (by omega)]
    refine ih (v + 1) _ (by omega) (sf_up x _ _) (fun k u i => ?_) (fun k u => ?_)
    · by_cases e : k = v
      · rw [e]; simp [iq_uz]
      · rw [← y k u (by omega)]; simp [iq_uz, e]
    · have e : ¬ k = (v : Int) := by omega
      rw [← w k (by omega)]; simp [iq_uz, e]
theorem sp48_8 {N : Nat} {xs : Nat → Int32} {Q : iq_T} {g : iq_I} {l : iq_J} {p m : Int} (hp : -2147483648 ≤ p ∧ p ≤ 2147483647) (hm : -2147483648 ≤ m ∧ m ≤ 2147483647) (hn : -1 ≤ g 8 2 ∧ g 8 2 ≤ 60) (q1 : 0 ≤ p ∧ 0 ≤ m ∧ p + m ≤ g 8 2 → Q (some (iq_i 1)) g l) (q0 : ¬ (0 ≤ p ∧ 0 ≤ m ∧ p + m ≤ g 8 2) → Q (some (iq_i 0)) g l) : iq_P N xs 48 0 [some (iq_r 8), some (iq_i p), some (iq_i m)] [] g l Q := by
  have e := sf_addl hp hm
  have en : (iq_i2l (g 8 2)).toInt = g 8 2 := iq_i2lv (by omega) (by omega)
  refine B48_8 _ _ _ _ ⟨by omega, fun c => q0 (by omega), fun c1 => ⟨by omega, fun c => q0 (by omega), fun c2 => ⟨iq_lcR _ _, fun c => ?_, fun c => ?_⟩⟩⟩
  · rw [iq_lcgt, e, en] at c
    exact q0 (by omega)
  · rw [iq_lcle, e, en] at c
    exact q1 ⟨c1, c2, c⟩
theorem sp311_8 {N : Nat} {xs : Nat → Int32} {Q : iq_T} {g : iq_I} {l : iq_J} {m : Int} (hm : 0 ≤ m ∧ m ≤ 2147483647) (hn : -1 ≤ g 8 2 ∧ g 8 2 ≤ 60) (q : Q (some (iq_i (sf_rn2 (g 8 2) m))) g l) : iq_P N xs 311 0 [some (iq_r 8), some (iq_i m)] [] g l Q := by
  unfold sf_rn2 at q
  refine B311_8 _ _ _ (B35_8 _ _ ⟨by omega, fun c => ⟨_, rfl, by omega, fun _ => sp48_8 (by omega) (by omega) hn (fun d => ⟨_, rfl, by omega, fun h => by omega, fun _ => ?_⟩) (fun d => ⟨_, rfl, by omega, fun _ => ?_, fun h => by omega⟩), fun h => by omega⟩, fun c => ⟨_, rfl, by omega, fun h => by omega, fun _ => ?_⟩⟩)
  · rw [if_neg c, if_pos (by omega)] at q; exact q
  · rw [if_neg c, if_neg (by omega)] at q; exact q
  · rw [if_pos c] at q; exact q
theorem sp312_8 {N : Nat} {xs : Nat → Int32} {Q : iq_T} {g : iq_I} {l : iq_J} {t m z : Int} {T : Int → Int} (hs : 0 ≤ g 8 1 ∧ g 8 1 ≤ 3) (hn : -1 ≤ g 8 2 ∧ g 8 2 ≤ 60) (hm : 0 ≤ m ∧ m ≤ g 8 2) (hr : iq_RG g) (h3 : g 31 3 = m) (hT : ∀ d, 0 ≤ d → d < m → g 32 d = T d) (q : ∀ l' : iq_J, (∀ j, ¬ j = 9 → l' j = l j) → (∀ k, 0 ≤ k → k < m → l' 9 k = sf_cut (g 8 1) (iq_i2l (T k))) → (∀ k, ¬ (0 ≤ k ∧ k < m) → l' 9 k = l 9 k) → Q (some (iq_i m)) (iq_uz g 0 0 0) l') (n : Nat) : ∀ (v : Nat) (l1 : iq_J), (v : Int) + n = m → (∀ j, ¬ j = 9 → l1 j = l j) → (∀ k : Int, 0 ≤ k → k < v → l1 9 k = sf_cut (g 8 1) (iq_i2l (T k))) → (∀ k : Int, ¬ (0 ≤ k ∧ k < v) → l1 9 k = l 9 k) → iq_P N xs 312 46 [some (iq_r 0), some (iq_i t), some (iq_r 8), some (iq_i m), some (iq_i z), some (iq_r 31), some (iq_i v)] [] g l1 Q := by
  induction n with
  | zero =>
    intro v l1 h x y w
    rw [show m = v by omega] at q ⊢
    exact B312_h46_8 _ _ _ _ _ _ ⟨by omega, fun _ => sp90 ⟨_, rfl, q l1 x y w⟩, fun h => by omega⟩
  | succ n ih =>
    intro v l1 h x y w
    refine B312_h46_8 _ _ _ _ _ _ ⟨by omega, fun h => by omega, fun _ => sp138 hr ⟨by omega, by omega⟩ ⟨_, rfl, sp39_8 hs hn ⟨by omega, by omega⟩ ⟨rfl, ?_⟩⟩⟩
    rw [hT v (by omega) (by omega)]
    refine ih (v + 1) _ (by omega) (sf_up x _ _) (fun k u i => ?_) (fun k u => ?_)
    · by_cases e : k = v
      · rw [e]; simp [iq_uz]
      · rw [← y k u (by omega)]; simp [iq_uz, e]
    · have e : ¬ k = (v : Int) := by omega
      rw [← w k (by omega)]; simp [iq_uz, e]
def iq_Ma (a : Nat) : Nat → Int → Bool := fun j _ => decide (j = a)
/-- why copyScale is refused: 0 if it isn't -/
def sf_wc (g : iq_I) (t m : Int) : Int := if 0 ≤ t ∧ t < 4 then sf_rn2 (g 80 t) m else 1
theorem cCopy_0 {N : Nat} {xs : Nat → Int32} {Q : iq_T} {g : iq_I} {l : iq_J} {t : Int} (hs : iq_SR g l 23 24 25 0) (hT : iq_TR g l) (q1 : sf_rn2 (g 80 0) (iq_m (g 24)) = 0 → ∀ (g' : iq_I) (l' : iq_J), iq_KM (iq_Ma 3) g l g' l' → (∀ k, 0 ≤ k → k < iq_m (g 24) → l' 3 k = sf_cut (g 79 0) (iq_i2l (iq_t (g 24) k))) → (∀ k, ¬ (0 ≤ k ∧ k < iq_m (g 24)) → l' 3 k = l 3 k) → g' 0 0 = 0 → Q (some (iq_i (iq_m (g 24)))) g' l') (q0 : ¬ sf_rn2 (g 80 0) (iq_m (g 24)) = 0 → ∀ (g' : iq_I) (l' : iq_J), iq_KK g l g' l' → g' 0 0 = sf_rn2 (g 80 0) (iq_m (g 24)) → Q (some (iq_i (-1))) g' l') : iq_P N xs 312 5 [some (iq_r 0), some (iq_i t), none, none, none, none, none] [iq_r 2] g l Q := by
  obtain ⟨a1, a2, a3, a4⟩ := sf_T0 hT
  have hm := iq_mR hs.1
  have hp3 := hs.1.2.2.2.1
  have em : iq_cn (iq_tb (l 23 4)) 64 = iq_m (g 24) := by
    rw [iq_cn_congr (h := iq_f (g 24)) (fun u _ _ => hs.2.2.1 u), iq_fm64 hs.1]
  refine B312_q5_2 _ _ _ (sp89_23 ⟨_, rfl, ?_⟩)
  rw [em]
  refine sp311_2 (by omega) (by omega) ⟨_, rfl, ?_⟩
  rw [a2]
  have hR := sf_rn2R (g 80 0) (iq_m (g 24))
  refine ⟨by omega, fun z => sp137 hs (fun g1 e1 e2 e3 e4 e5 => B312_q41_31_2 _ _ _ _ _ ?_), fun z => sp44 ⟨_, rfl, q0 z _ _ ((iq_KK.refl _ _).uz iq_sx00) (by simp [iq_uz])⟩⟩
  have er : g1 2 = g 2 := e1 2 (by decide) (by decide)
  have w := sf_rn20 z
  refine sp312_2 (l := iq_uz l 31 1 (l 23 4)) (T := iq_t (g 24)) (by rw [er]; omega) (by rw [er]; omega) (by rw [er]; omega) e5 e3 e4 (fun l' x y v => ?_) (iq_m (g 24)).toNat 0 _ (by omega) (fun _ _ => rfl) (fun k u i => by omega) (fun _ _ => rfl)
  rw [er, a1] at y
  have kk : iq_KM (iq_Ma 3) g l g1 l' := by
    have k0 := (iq_KKr (l := l) (x := l 23 4) e1).km (iq_Ma 3)
    refine ⟨fun j k p s => ⟨(k0.1 j k p s).1, ?_⟩, ?_, ?_, ?_, ?_⟩
    · rw [x j (fun e => by rw [e] at s; simp [iq_Ma] at s)]
      exact (k0.1 j k p s).2
    · rw [x 0 (by decide)]; exact k0.2.1
    · rw [x 0 (by decide)]; exact k0.2.2.1
    · rw [x 77 (by decide)]; exact k0.2.2.2.1
    · rw [x 77 (by decide)]; exact k0.2.2.2.2
  refine q1 z _ _ (kk.uz (.inl iq_sx00)) y (fun k u => ?_) (by simp [iq_uz])
  rw [v k u]; simp [iq_uz]
theorem cCopy_1 {N : Nat} {xs : Nat → Int32} {Q : iq_T} {g : iq_I} {l : iq_J} {t : Int} (hs : iq_SR g l 23 24 25 0) (hT : iq_TR g l) (q1 : sf_rn2 (g 80 1) (iq_m (g 24)) = 0 → ∀ (g' : iq_I) (l' : iq_J), iq_KM (iq_Ma 5) g l g' l' → (∀ k, 0 ≤ k → k < iq_m (g 24) → l' 5 k = sf_cut (g 79 1) (iq_i2l (iq_t (g 24) k))) → (∀ k, ¬ (0 ≤ k ∧ k < iq_m (g 24)) → l' 5 k = l 5 k) → g' 0 0 = 0 → Q (some (iq_i (iq_m (g 24)))) g' l') (q0 : ¬ sf_rn2 (g 80 1) (iq_m (g 24)) = 0 → ∀ (g' : iq_I) (l' : iq_J), iq_KK g l g' l' → g' 0 0 = sf_rn2 (g 80 1) (iq_m (g 24)) → Q (some (iq_i (-1))) g' l') : iq_P N xs 312 5 [some (iq_r 0), some (iq_i t), none, none, none, none, none] [iq_r 4] g l Q := by
  obtain ⟨a1, a2, a3, a4⟩ := sf_T1 hT
  have hm := iq_mR hs.1
  have hp3 := hs.1.2.2.2.1
  have em : iq_cn (iq_tb (l 23 4)) 64 = iq_m (g 24) := by
    rw [iq_cn_congr (h := iq_f (g 24)) (fun u _ _ => hs.2.2.1 u), iq_fm64 hs.1]
  refine B312_q5_4 _ _ _ (sp89_23 ⟨_, rfl, ?_⟩)
  rw [em]
  refine sp311_4 (by omega) (by omega) ⟨_, rfl, ?_⟩
  rw [a2]
  have hR := sf_rn2R (g 80 1) (iq_m (g 24))
  refine ⟨by omega, fun z => sp137 hs (fun g1 e1 e2 e3 e4 e5 => B312_q41_31_4 _ _ _ _ _ ?_), fun z => sp44 ⟨_, rfl, q0 z _ _ ((iq_KK.refl _ _).uz iq_sx00) (by simp [iq_uz])⟩⟩
  have er : g1 4 = g 4 := e1 4 (by decide) (by decide)
  have w := sf_rn20 z
  refine sp312_4 (l := iq_uz l 31 1 (l 23 4)) (T := iq_t (g 24)) (by rw [er]; omega) (by rw [er]; omega) (by rw [er]; omega) e5 e3 e4 (fun l' x y v => ?_) (iq_m (g 24)).toNat 0 _ (by omega) (fun _ _ => rfl) (fun k u i => by omega) (fun _ _ => rfl)
  rw [er, a1] at y
  have kk : iq_KM (iq_Ma 5) g l g1 l' := by
    have k0 := (iq_KKr (l := l) (x := l 23 4) e1).km (iq_Ma 5)
    refine ⟨fun j k p s => ⟨(k0.1 j k p s).1, ?_⟩, ?_, ?_, ?_, ?_⟩
    · rw [x j (fun e => by rw [e] at s; simp [iq_Ma] at s)]
      exact (k0.1 j k p s).2
    · rw [x 0 (by decide)]; exact k0.2.1
    · rw [x 0 (by decide)]; exact k0.2.2.1
    · rw [x 77 (by decide)]; exact k0.2.2.2.1
    · rw [x 77 (by decide)]; exact k0.2.2.2.2
  refine q1 z _ _ (kk.uz (.inl iq_sx00)) y (fun k u => ?_) (by simp [iq_uz])
  rw [v k u]; simp [iq_uz]
theorem cCopy_2 {N : Nat} {xs : Nat → Int32} {Q : iq_T} {g : iq_I} {l : iq_J} {t : Int} (hs : iq_SR g l 23 24 25 0) (hT : iq_TR g l) (q1 : sf_rn2 (g 80 2) (iq_m (g 24)) = 0 → ∀ (g' : iq_I) (l' : iq_J), iq_KM (iq_Ma 7) g l g' l' → (∀ k, 0 ≤ k → k < iq_m (g 24) → l' 7 k = sf_cut (g 79 2) (iq_i2l (iq_t (g 24) k))) → (∀ k, ¬ (0 ≤ k ∧ k < iq_m (g 24)) → l' 7 k = l 7 k) → g' 0 0 = 0 → Q (some (iq_i (iq_m (g 24)))) g' l') (q0 : ¬ sf_rn2 (g 80 2) (iq_m (g 24)) = 0 → ∀ (g' : iq_I) (l' : iq_J), iq_KK g l g' l' → g' 0 0 = sf_rn2 (g 80 2) (iq_m (g 24)) → Q (some (iq_i (-1))) g' l') : iq_P N xs 312 5 [some (iq_r 0), some (iq_i t), none, none, none, none, none] [iq_r 6] g l Q := by
  obtain ⟨a1, a2, a3, a4⟩ := sf_T2 hT
  have hm := iq_mR hs.1
  have hp3 := hs.1.2.2.2.1
  have em : iq_cn (iq_tb (l 23 4)) 64 = iq_m (g 24) := by
    rw [iq_cn_congr (h := iq_f (g 24)) (fun u _ _ => hs.2.2.1 u), iq_fm64 hs.1]
  refine B312_q5_6 _ _ _ (sp89_23 ⟨_, rfl, ?_⟩)
  rw [em]
  refine sp311_6 (by omega) (by omega) ⟨_, rfl, ?_⟩
  rw [a2]
  have hR := sf_rn2R (g 80 2) (iq_m (g 24))
  refine ⟨by omega, fun z => sp137 hs (fun g1 e1 e2 e3 e4 e5 => B312_q41_31_6 _ _ _ _ _ ?_), fun z => sp44 ⟨_, rfl, q0 z _ _ ((iq_KK.refl _ _).uz iq_sx00) (by simp [iq_uz])⟩⟩
  have er : g1 6 = g 6 := e1 6 (by decide) (by decide)
  have w := sf_rn20 z
  refine sp312_6 (l := iq_uz l 31 1 (l 23 4)) (T := iq_t (g 24)) (by rw [er]; omega) (by rw [er]; omega) (by rw [er]; omega) e5 e3 e4 (fun l' x y v => ?_) (iq_m (g 24)).toNat 0 _ (by omega) (fun _ _ => rfl) (fun k u i => by omega) (fun _ _ => rfl)
  rw [er, a1] at y
  have kk : iq_KM (iq_Ma 7) g l g1 l' := by
    have k0 := (iq_KKr (l := l) (x := l 23 4) e1).km (iq_Ma 7)
    refine ⟨fun j k p s => ⟨(k0.1 j k p s).1, ?_⟩, ?_, ?_, ?_, ?_⟩
    · rw [x j (fun e => by rw [e] at s; simp [iq_Ma] at s)]
      exact (k0.1 j k p s).2
    · rw [x 0 (by decide)]; exact k0.2.1
    · rw [x 0 (by decide)]; exact k0.2.2.1
    · rw [x 77 (by decide)]; exact k0.2.2.2.1
    · rw [x 77 (by decide)]; exact k0.2.2.2.2
  refine q1 z _ _ (kk.uz (.inl iq_sx00)) y (fun k u => ?_) (by simp [iq_uz])
  rw [v k u]; simp [iq_uz]
theorem cCopy_3 {N : Nat} {xs : Nat → Int32} {Q : iq_T} {g : iq_I} {l : iq_J} {t : Int} (hs : iq_SR g l 23 24 25 0) (hT : iq_TR g l) (q1 : sf_rn2 (g 80 3) (iq_m (g 24)) = 0 → ∀ (g' : iq_I) (l' : iq_J), iq_KM (iq_Ma 9) g l g' l' → (∀ k, 0 ≤ k → k < iq_m (g 24) → l' 9 k = sf_cut (g 79 3) (iq_i2l (iq_t (g 24) k))) → (∀ k, ¬ (0 ≤ k ∧ k < iq_m (g 24)) → l' 9 k = l 9 k) → g' 0 0 = 0 → Q (some (iq_i (iq_m (g 24)))) g' l') (q0 : ¬ sf_rn2 (g 80 3) (iq_m (g 24)) = 0 → ∀ (g' : iq_I) (l' : iq_J), iq_KK g l g' l' → g' 0 0 = sf_rn2 (g 80 3) (iq_m (g 24)) → Q (some (iq_i (-1))) g' l') : iq_P N xs 312 5 [some (iq_r 0), some (iq_i t), none, none, none, none, none] [iq_r 8] g l Q := by
  obtain ⟨a1, a2, a3, a4⟩ := sf_T3 hT
  have hm := iq_mR hs.1
  have hp3 := hs.1.2.2.2.1
  have em : iq_cn (iq_tb (l 23 4)) 64 = iq_m (g 24) := by
    rw [iq_cn_congr (h := iq_f (g 24)) (fun u _ _ => hs.2.2.1 u), iq_fm64 hs.1]
  refine B312_q5_8 _ _ _ (sp89_23 ⟨_, rfl, ?_⟩)
  rw [em]
  refine sp311_8 (by omega) (by omega) ⟨_, rfl, ?_⟩
  rw [a2]
  have hR := sf_rn2R (g 80 3) (iq_m (g 24))
  refine ⟨by omega, fun z => sp137 hs (fun g1 e1 e2 e3 e4 e5 => B312_q41_31_8 _ _ _ _ _ ?_), fun z => sp44 ⟨_, rfl, q0 z _ _ ((iq_KK.refl _ _).uz iq_sx00) (by simp [iq_uz])⟩⟩
  have er : g1 8 = g 8 := e1 8 (by decide) (by decide)
  have w := sf_rn20 z
  refine sp312_8 (l := iq_uz l 31 1 (l 23 4)) (T := iq_t (g 24)) (by rw [er]; omega) (by rw [er]; omega) (by rw [er]; omega) e5 e3 e4 (fun l' x y v => ?_) (iq_m (g 24)).toNat 0 _ (by omega) (fun _ _ => rfl) (fun k u i => by omega) (fun _ _ => rfl)
  rw [er, a1] at y
  have kk : iq_KM (iq_Ma 9) g l g1 l' := by
    have k0 := (iq_KKr (l := l) (x := l 23 4) e1).km (iq_Ma 9)
    refine ⟨fun j k p s => ⟨(k0.1 j k p s).1, ?_⟩, ?_, ?_, ?_, ?_⟩
    · rw [x j (fun e => by rw [e] at s; simp [iq_Ma] at s)]
      exact (k0.1 j k p s).2
    · rw [x 0 (by decide)]; exact k0.2.1
    · rw [x 0 (by decide)]; exact k0.2.2.1
    · rw [x 77 (by decide)]; exact k0.2.2.2.1
    · rw [x 77 (by decide)]; exact k0.2.2.2.2
  refine q1 z _ _ (kk.uz (.inl iq_sx00)) y (fun k u => ?_) (by simp [iq_uz])
  rw [v k u]; simp [iq_uz]
