/-! Trays: tray, write, read; status, top, bottom. -/
def iq_TR (g : iq_I) (l : iq_J) : Prop := ∀ t : Nat, t < 4 → g (2 + 2 * t) 1 = g 79 t ∧ g (2 + 2 * t) 2 = g 80 t ∧ (0 ≤ g 79 t ∧ g 79 t ≤ 3) ∧ (-1 ≤ g 80 t ∧ g 80 t ≤ 60) ∧ ∀ k, 0 ≤ k → k < g 80 t → l (3 + 2 * t) k = l 81 (60 * t + k)
/-- why a place of a tray is wrong -/
def sf_wp (n p : Int) : Int := if n = -1 then 2 else if 0 ≤ p ∧ p < n then 0 else 3
def sf_cut (s : Int) (x : Int64) : Int64 := if s = 0 then iq_i2l (iq_i2b (iq_l2i x)) else if s = 1 then iq_i2l (iq_i2s (iq_l2i x)) else if s = 2 then iq_i2l (iq_l2i x) else x
theorem sf_wpR (n p : Int) : 0 ≤ sf_wp n p ∧ sf_wp n p ≤ 3 := by unfold sf_wp; split <;> (try split) <;> omega
theorem sf_wp0 {n p : Int} (h : sf_wp n p = 0) : 0 ≤ p ∧ p < n := by
  unfold sf_wp at h
  split at h
  · omega
  · split at h
    · assumption
    · omega
theorem sp36_2 {N : Nat} {xs : Nat → Int32} {Q : iq_T} {g : iq_I} {l : iq_J} {p : Int} (hp : -2147483648 ≤ p ∧ p ≤ 2147483647) (hn : -1 ≤ g 2 2 ∧ g 2 2 ≤ 60) (q1 : 0 ≤ p ∧ p < g 2 2 → Q (some (iq_i 1)) g l) (q0 : ¬ (0 ≤ p ∧ p < g 2 2) → Q (some (iq_i 0)) g l) : iq_P N xs 36 0 [some (iq_r 2), some (iq_i p)] [] g l Q :=
  B36_2 _ _ _ ⟨by omega, fun c => q0 (by omega), fun c1 => ⟨by omega, fun c => q0 (by omega), fun c2 => ⟨by omega, fun c => by omega, fun _ => q1 ⟨c1, c2⟩⟩⟩⟩
theorem sp37_2 {N : Nat} {xs : Nat → Int32} {Q : iq_T} {g : iq_I} {l : iq_J} {p : Int} (hp : -2147483648 ≤ p ∧ p ≤ 2147483647) (hn : -1 ≤ g 2 2 ∧ g 2 2 ≤ 60) (q : Q (some (iq_i (sf_wp (g 2 2) p))) g l) : iq_P N xs 37 0 [some (iq_r 2), some (iq_i p)] [] g l Q := by
  unfold sf_wp at q
  refine B37_2 _ _ _ (B35_2 _ _ ⟨by omega, fun c => ⟨_, rfl, by omega, fun _ => sp36_2 hp hn (fun d => ⟨_, rfl, by omega, fun h => by omega, fun _ => ?_⟩) (fun d => ⟨_, rfl, by omega, fun _ => ?_, fun h => by omega⟩), fun h => by omega⟩, fun c => ⟨_, rfl, by omega, fun h => by omega, fun _ => ?_⟩⟩)
  · rw [if_neg c, if_pos d] at q; exact q
  · rw [if_neg c, if_neg d] at q; exact q
  · rw [if_pos c] at q; exact q
theorem sp38_2 {N : Nat} {xs : Nat → Int32} {Q : iq_T} {g : iq_I} {l : iq_J} {x : Int64} (hs : 0 ≤ g 2 1 ∧ g 2 1 ≤ 3) (q : Q (some (iq_l (sf_cut (g 2 1) x))) g l) : iq_P N xs 38 0 [some (iq_r 2), some (iq_l x), none] [] g l Q := by
  unfold sf_cut at q
  refine B38_2 _ _ _ ⟨by omega, ⟨fun e => ?_, fun e => ?_, fun e => ?_, trivial⟩, fun e => ?_⟩
  · rw [if_pos e] at q; exact q
  · rw [if_neg (by omega), if_pos e] at q; exact q
  · rw [if_neg (by omega), if_neg (by omega), if_pos e] at q; exact q
  · rw [if_neg (by omega), if_neg (by omega), if_neg (by omega)] at q; exact q
theorem sp39_2 {N : Nat} {xs : Nat → Int32} {Q : iq_T} {g : iq_I} {l : iq_J} {p : Int} {x : Int64} (hs : 0 ≤ g 2 1 ∧ g 2 1 ≤ 3) (hn : -1 ≤ g 2 2 ∧ g 2 2 ≤ 60) (hp : 0 ≤ p ∧ p < g 2 2) (q : Q none g (iq_uz l 3 p (sf_cut (g 2 1) x))) : iq_P N xs 39 0 [some (iq_r 2), some (iq_i p), some (iq_l x), none] [] g l Q :=
  B39_2 _ _ _ _ (sp36_2 (by omega) hn (fun d => ⟨_, rfl, by omega, fun h => by omega, fun _ => sp38_2 hs ⟨_, rfl, by omega, q⟩⟩) (fun d => absurd hp d))
theorem sp45_2 {N : Nat} {xs : Nat → Int32} {Q : iq_T} {g : iq_I} {l : iq_J} {p : Int} (hn : -1 ≤ g 2 2 ∧ g 2 2 ≤ 60) (hp : 0 ≤ p ∧ p < g 2 2) (q : Q (some (iq_l (l 3 p))) g l) : iq_P N xs 45 0 [some (iq_r 2), some (iq_i p)] [] g l Q :=
  B45_2 _ _ _ (sp36_2 (by omega) hn (fun d => ⟨_, rfl, by omega, fun h => by omega, fun _ => ⟨by omega, q⟩⟩) (fun d => absurd hp d))
theorem sp29_2 {N : Nat} {xs : Nat → Int32} {Q : iq_T} {g : iq_I} {l : iq_J} {s n : Int} (q : ∀ l' : iq_J, (∀ j, ¬ j = 3 → l' j = l j) → (∀ k, 0 ≤ k → k < 60 → l' 3 k = 0) → Q none (iq_uz (iq_uz g 2 1 s) 2 2 n) l') : iq_P N xs 29 0 [some (iq_r 2), some (iq_i s), some (iq_i n), none] [] g l Q := by
  have key : ∀ (m k : Nat) (l1 : iq_J), k + m = 60 → (∀ j, ¬ j = 3 → l1 j = l j) → (∀ i : Int, 0 ≤ i → i < k → l1 3 i = 0) → iq_P N xs 29 12 [some (iq_r 2), some (iq_i s), some (iq_i n), some (iq_i k)] [] (iq_uz (iq_uz g 2 1 s) 2 2 n) l1 Q := by
    intro m
    induction m with
    | zero =>
      intro k l1 h x y
      exact B29_p12_2 _ _ _ _ _ ⟨by omega, fun _ => q l1 x (fun i u w => y i u (by omega)), fun h => by omega⟩
    | succ m ih =>
      intro k l1 h x y
      refine B29_p12_2 _ _ _ _ _ ⟨by omega, fun h => by omega, fun _ => ⟨by omega, ih (k + 1) _ (by omega) (sf_up x _ _) (fun i u w => ?_)⟩⟩
      by_cases e : i = k
      · rw [e]; simp [iq_uz]
      · rw [← y i u (by omega)]; simp [iq_uz, e]
  exact B29_2 _ _ _ _ (key 60 0 l (by omega) (fun _ _ => rfl) (fun i u w => by omega))
theorem sp36_4 {N : Nat} {xs : Nat → Int32} {Q : iq_T} {g : iq_I} {l : iq_J} {p : Int} (hp : -2147483648 ≤ p ∧ p ≤ 2147483647) (hn : -1 ≤ g 4 2 ∧ g 4 2 ≤ 60) (q1 : 0 ≤ p ∧ p < g 4 2 → Q (some (iq_i 1)) g l) (q0 : ¬ (0 ≤ p ∧ p < g 4 2) → Q (some (iq_i 0)) g l) : iq_P N xs 36 0 [some (iq_r 4), some (iq_i p)] [] g l Q :=
  B36_4 _ _ _ ⟨by omega, fun c => q0 (by omega), fun c1 => ⟨by omega, fun c => q0 (by omega), fun c2 => ⟨by omega, fun c => by omega, fun _ => q1 ⟨c1, c2⟩⟩⟩⟩
theorem sp37_4 {N : Nat} {xs : Nat → Int32} {Q : iq_T} {g : iq_I} {l : iq_J} {p : Int} (hp : -2147483648 ≤ p ∧ p ≤ 2147483647) (hn : -1 ≤ g 4 2 ∧ g 4 2 ≤ 60) (q : Q (some (iq_i (sf_wp (g 4 2) p))) g l) : iq_P N xs 37 0 [some (iq_r 4), some (iq_i p)] [] g l Q := by
  unfold sf_wp at q
  refine B37_4 _ _ _ (B35_4 _ _ ⟨by omega, fun c => ⟨_, rfl, by omega, fun _ => sp36_4 hp hn (fun d => ⟨_, rfl, by omega, fun h => by omega, fun _ => ?_⟩) (fun d => ⟨_, rfl, by omega, fun _ => ?_, fun h => by omega⟩), fun h => by omega⟩, fun c => ⟨_, rfl, by omega, fun h => by omega, fun _ => ?_⟩⟩)
  · rw [if_neg c, if_pos d] at q; exact q
  · rw [if_neg c, if_neg d] at q; exact q
  · rw [if_pos c] at q; exact q
theorem sp38_4 {N : Nat} {xs : Nat → Int32} {Q : iq_T} {g : iq_I} {l : iq_J} {x : Int64} (hs : 0 ≤ g 4 1 ∧ g 4 1 ≤ 3) (q : Q (some (iq_l (sf_cut (g 4 1) x))) g l) : iq_P N xs 38 0 [some (iq_r 4), some (iq_l x), none] [] g l Q := by
  unfold sf_cut at q
  refine B38_4 _ _ _ ⟨by omega, ⟨fun e => ?_, fun e => ?_, fun e => ?_, trivial⟩, fun e => ?_⟩
  · rw [if_pos e] at q; exact q
  · rw [if_neg (by omega), if_pos e] at q; exact q
  · rw [if_neg (by omega), if_neg (by omega), if_pos e] at q; exact q
  · rw [if_neg (by omega), if_neg (by omega), if_neg (by omega)] at q; exact q
theorem sp39_4 {N : Nat} {xs : Nat → Int32} {Q : iq_T} {g : iq_I} {l : iq_J} {p : Int} {x : Int64} (hs : 0 ≤ g 4 1 ∧ g 4 1 ≤ 3) (hn : -1 ≤ g 4 2 ∧ g 4 2 ≤ 60) (hp : 0 ≤ p ∧ p < g 4 2) (q : Q none g (iq_uz l 5 p (sf_cut (g 4 1) x))) : iq_P N xs 39 0 [some (iq_r 4), some (iq_i p), some (iq_l x), none] [] g l Q :=
  B39_4 _ _ _ _ (sp36_4 (by omega) hn (fun d => ⟨_, rfl, by omega, fun h => by omega, fun _ => sp38_4 hs ⟨_, rfl, by omega, q⟩⟩) (fun d => absurd hp d))
theorem sp45_4 {N : Nat} {xs : Nat → Int32} {Q : iq_T} {g : iq_I} {l : iq_J} {p : Int} (hn : -1 ≤ g 4 2 ∧ g 4 2 ≤ 60) (hp : 0 ≤ p ∧ p < g 4 2) (q : Q (some (iq_l (l 5 p))) g l) : iq_P N xs 45 0 [some (iq_r 4), some (iq_i p)] [] g l Q :=
  B45_4 _ _ _ (sp36_4 (by omega) hn (fun d => ⟨_, rfl, by omega, fun h => by omega, fun _ => ⟨by omega, q⟩⟩) (fun d => absurd hp d))
theorem sp29_4 {N : Nat} {xs : Nat → Int32} {Q : iq_T} {g : iq_I} {l : iq_J} {s n : Int} (q : ∀ l' : iq_J, (∀ j, ¬ j = 5 → l' j = l j) → (∀ k, 0 ≤ k → k < 60 → l' 5 k = 0) → Q none (iq_uz (iq_uz g 4 1 s) 4 2 n) l') : iq_P N xs 29 0 [some (iq_r 4), some (iq_i s), some (iq_i n), none] [] g l Q := by
  have key : ∀ (m k : Nat) (l1 : iq_J), k + m = 60 → (∀ j, ¬ j = 5 → l1 j = l j) → (∀ i : Int, 0 ≤ i → i < k → l1 5 i = 0) → iq_P N xs 29 12 [some (iq_r 4), some (iq_i s), some (iq_i n), some (iq_i k)] [] (iq_uz (iq_uz g 4 1 s) 4 2 n) l1 Q := by
    intro m
    induction m with
    | zero =>
      intro k l1 h x y
      exact B29_p12_4 _ _ _ _ _ ⟨by omega, fun _ => q l1 x (fun i u w => y i u (by omega)), fun h => by omega⟩
    | succ m ih =>
      intro k l1 h x y
      refine B29_p12_4 _ _ _ _ _ ⟨by omega, fun h => by omega, fun _ => ⟨by omega, ih (k + 1) _ (by omega) (sf_up x _ _) (fun i u w => ?_)⟩⟩
      by_cases e : i = k
      · rw [e]; simp [iq_uz]
      · rw [← y i u (by omega)]; simp [iq_uz, e]
  exact B29_4 _ _ _ _ (key 60 0 l (by omega) (fun _ _ => rfl) (fun i u w => by omega))
theorem sp36_6 {N : Nat} {xs : Nat → Int32} {Q : iq_T} {g : iq_I} {l : iq_J} {p : Int} (hp : -2147483648 ≤ p ∧ p ≤ 2147483647) (hn : -1 ≤ g 6 2 ∧ g 6 2 ≤ 60) (q1 : 0 ≤ p ∧ p < g 6 2 → Q (some (iq_i 1)) g l) (q0 : ¬ (0 ≤ p ∧ p < g 6 2) → Q (some (iq_i 0)) g l) : iq_P N xs 36 0 [some (iq_r 6), some (iq_i p)] [] g l Q :=
  B36_6 _ _ _ ⟨by omega, fun c => q0 (by omega), fun c1 => ⟨by omega, fun c => q0 (by omega), fun c2 => ⟨by omega, fun c => by omega, fun _ => q1 ⟨c1, c2⟩⟩⟩⟩
theorem sp37_6 {N : Nat} {xs : Nat → Int32} {Q : iq_T} {g : iq_I} {l : iq_J} {p : Int} (hp : -2147483648 ≤ p ∧ p ≤ 2147483647) (hn : -1 ≤ g 6 2 ∧ g 6 2 ≤ 60) (q : Q (some (iq_i (sf_wp (g 6 2) p))) g l) : iq_P N xs 37 0 [some (iq_r 6), some (iq_i p)] [] g l Q := by
  unfold sf_wp at q
  refine B37_6 _ _ _ (B35_6 _ _ ⟨by omega, fun c => ⟨_, rfl, by omega, fun _ => sp36_6 hp hn (fun d => ⟨_, rfl, by omega, fun h => by omega, fun _ => ?_⟩) (fun d => ⟨_, rfl, by omega, fun _ => ?_, fun h => by omega⟩), fun h => by omega⟩, fun c => ⟨_, rfl, by omega, fun h => by omega, fun _ => ?_⟩⟩)
  · rw [if_neg c, if_pos d] at q; exact q
  · rw [if_neg c, if_neg d] at q; exact q
  · rw [if_pos c] at q; exact q
theorem sp38_6 {N : Nat} {xs : Nat → Int32} {Q : iq_T} {g : iq_I} {l : iq_J} {x : Int64} (hs : 0 ≤ g 6 1 ∧ g 6 1 ≤ 3) (q : Q (some (iq_l (sf_cut (g 6 1) x))) g l) : iq_P N xs 38 0 [some (iq_r 6), some (iq_l x), none] [] g l Q := by
  unfold sf_cut at q
  refine B38_6 _ _ _ ⟨by omega, ⟨fun e => ?_, fun e => ?_, fun e => ?_, trivial⟩, fun e => ?_⟩
  · rw [if_pos e] at q; exact q
  · rw [if_neg (by omega), if_pos e] at q; exact q
  · rw [if_neg (by omega), if_neg (by omega), if_pos e] at q; exact q
  · rw [if_neg (by omega), if_neg (by omega), if_neg (by omega)] at q; exact q
theorem sp39_6 {N : Nat} {xs : Nat → Int32} {Q : iq_T} {g : iq_I} {l : iq_J} {p : Int} {x : Int64} (hs : 0 ≤ g 6 1 ∧ g 6 1 ≤ 3) (hn : -1 ≤ g 6 2 ∧ g 6 2 ≤ 60) (hp : 0 ≤ p ∧ p < g 6 2) (q : Q none g (iq_uz l 7 p (sf_cut (g 6 1) x))) : iq_P N xs 39 0 [some (iq_r 6), some (iq_i p), some (iq_l x), none] [] g l Q :=
  B39_6 _ _ _ _ (sp36_6 (by omega) hn (fun d => ⟨_, rfl, by omega, fun h => by omega, fun _ => sp38_6 hs ⟨_, rfl, by omega, q⟩⟩) (fun d => absurd hp d))
theorem sp45_6 {N : Nat} {xs : Nat → Int32} {Q : iq_T} {g : iq_I} {l : iq_J} {p : Int} (hn : -1 ≤ g 6 2 ∧ g 6 2 ≤ 60) (hp : 0 ≤ p ∧ p < g 6 2) (q : Q (some (iq_l (l 7 p))) g l) : iq_P N xs 45 0 [some (iq_r 6), some (iq_i p)] [] g l Q :=
  B45_6 _ _ _ (sp36_6 (by omega) hn (fun d => ⟨_, rfl, by omega, fun h => by omega, fun _ => ⟨by omega, q⟩⟩) (fun d => absurd hp d))
theorem sp29_6 {N : Nat} {xs : Nat → Int32} {Q : iq_T} {g : iq_I} {l : iq_J} {s n : Int} (q : ∀ l' : iq_J, (∀ j, ¬ j = 7 → l' j = l j) → (∀ k, 0 ≤ k → k < 60 → l' 7 k = 0) → Q none (iq_uz (iq_uz g 6 1 s) 6 2 n) l') : iq_P N xs 29 0 [some (iq_r 6), some (iq_i s), some (iq_i n), none] [] g l Q := by
  have key : ∀ (m k : Nat) (l1 : iq_J), k + m = 60 → (∀ j, ¬ j = 7 → l1 j = l j) → (∀ i : Int, 0 ≤ i → i < k → l1 7 i = 0) → iq_P N xs 29 12 [some (iq_r 6), some (iq_i s), some (iq_i n), some (iq_i k)] [] (iq_uz (iq_uz g 6 1 s) 6 2 n) l1 Q := by
    intro m
    induction m with
    | zero =>
      intro k l1 h x y
      exact B29_p12_6 _ _ _ _ _ ⟨by omega, fun _ => q l1 x (fun i u w => y i u (by omega)), fun h => by omega⟩
    | succ m ih =>
      intro k l1 h x y
      refine B29_p12_6 _ _ _ _ _ ⟨by omega, fun h => by omega, fun _ => ⟨by omega, ih (k + 1) _ (by omega) (sf_up x _ _) (fun i u w => ?_)⟩⟩
      by_cases e : i = k
      · rw [e]; simp [iq_uz]
      · rw [← y i u (by omega)]; simp [iq_uz, e]
  exact B29_6 _ _ _ _ (key 60 0 l (by omega) (fun _ _ => rfl) (fun i u w => by omega))
theorem sp36_8 {N : Nat} {xs : Nat → Int32} {Q : iq_T} {g : iq_I} {l : iq_J} {p : Int} (hp : -2147483648 ≤ p ∧ p ≤ 2147483647) (hn : -1 ≤ g 8 2 ∧ g 8 2 ≤ 60) (q1 : 0 ≤ p ∧ p < g 8 2 → Q (some (iq_i 1)) g l) (q0 : ¬ (0 ≤ p ∧ p < g 8 2) → Q (some (iq_i 0)) g l) : iq_P N xs 36 0 [some (iq_r 8), some (iq_i p)] [] g l Q :=
  B36_8 _ _ _ ⟨by omega, fun c => q0 (by omega), fun c1 => ⟨by omega, fun c => q0 (by omega), fun c2 => ⟨by omega, fun c => by omega, fun _ => q1 ⟨c1, c2⟩⟩⟩⟩
theorem sp37_8 {N : Nat} {xs : Nat → Int32} {Q : iq_T} {g : iq_I} {l : iq_J} {p : Int} (hp : -2147483648 ≤ p ∧ p ≤ 2147483647) (hn : -1 ≤ g 8 2 ∧ g 8 2 ≤ 60) (q : Q (some (iq_i (sf_wp (g 8 2) p))) g l) : iq_P N xs 37 0 [some (iq_r 8), some (iq_i p)] [] g l Q := by
  unfold sf_wp at q
  refine B37_8 _ _ _ (B35_8 _ _ ⟨by omega, fun c => ⟨_, rfl, by omega, fun _ => sp36_8 hp hn (fun d => ⟨_, rfl, by omega, fun h => by omega, fun _ => ?_⟩) (fun d => ⟨_, rfl, by omega, fun _ => ?_, fun h => by omega⟩), fun h => by omega⟩, fun c => ⟨_, rfl, by omega, fun h => by omega, fun _ => ?_⟩⟩)
  · rw [if_neg c, if_pos d] at q; exact q
  · rw [if_neg c, if_neg d] at q; exact q
  · rw [if_pos c] at q; exact q
theorem sp38_8 {N : Nat} {xs : Nat → Int32} {Q : iq_T} {g : iq_I} {l : iq_J} {x : Int64} (hs : 0 ≤ g 8 1 ∧ g 8 1 ≤ 3) (q : Q (some (iq_l (sf_cut (g 8 1) x))) g l) : iq_P N xs 38 0 [some (iq_r 8), some (iq_l x), none] [] g l Q := by
  unfold sf_cut at q
  refine B38_8 _ _ _ ⟨by omega, ⟨fun e => ?_, fun e => ?_, fun e => ?_, trivial⟩, fun e => ?_⟩
  · rw [if_pos e] at q; exact q
  · rw [if_neg (by omega), if_pos e] at q; exact q
  · rw [if_neg (by omega), if_neg (by omega), if_pos e] at q; exact q
  · rw [if_neg (by omega), if_neg (by omega), if_neg (by omega)] at q; exact q
theorem sp39_8 {N : Nat} {xs : Nat → Int32} {Q : iq_T} {g : iq_I} {l : iq_J} {p : Int} {x : Int64} (hs : 0 ≤ g 8 1 ∧ g 8 1 ≤ 3) (hn : -1 ≤ g 8 2 ∧ g 8 2 ≤ 60) (hp : 0 ≤ p ∧ p < g 8 2) (q : Q none g (iq_uz l 9 p (sf_cut (g 8 1) x))) : iq_P N xs 39 0 [some (iq_r 8), some (iq_i p), some (iq_l x), none] [] g l Q :=
  B39_8 _ _ _ _ (sp36_8 (by omega) hn (fun d => ⟨_, rfl, by omega, fun h => by omega, fun _ => sp38_8 hs ⟨_, rfl, by omega, q⟩⟩) (fun d => absurd hp d))
theorem sp45_8 {N : Nat} {xs : Nat → Int32} {Q : iq_T} {g : iq_I} {l : iq_J} {p : Int} (hn : -1 ≤ g 8 2 ∧ g 8 2 ≤ 60) (hp : 0 ≤ p ∧ p < g 8 2) (q : Q (some (iq_l (l 9 p))) g l) : iq_P N xs 45 0 [some (iq_r 8), some (iq_i p)] [] g l Q :=
  B45_8 _ _ _ (sp36_8 (by omega) hn (fun d => ⟨_, rfl, by omega, fun h => by omega, fun _ => ⟨by omega, q⟩⟩) (fun d => absurd hp d))
theorem sp29_8 {N : Nat} {xs : Nat → Int32} {Q : iq_T} {g : iq_I} {l : iq_J} {s n : Int} (q : ∀ l' : iq_J, (∀ j, ¬ j = 9 → l' j = l j) → (∀ k, 0 ≤ k → k < 60 → l' 9 k = 0) → Q none (iq_uz (iq_uz g 8 1 s) 8 2 n) l') : iq_P N xs 29 0 [some (iq_r 8), some (iq_i s), some (iq_i n), none] [] g l Q := by
  have key : ∀ (m k : Nat) (l1 : iq_J), k + m = 60 → (∀ j, ¬ j = 9 → l1 j = l j) → (∀ i : Int, 0 ≤ i → i < k → l1 9 i = 0) → iq_P N xs 29 12 [some (iq_r 8), some (iq_i s), some (iq_i n), some (iq_i k)] [] (iq_uz (iq_uz g 8 1 s) 8 2 n) l1 Q := by
    intro m
    induction m with
    | zero =>
      intro k l1 h x y
      exact B29_p12_8 _ _ _ _ _ ⟨by omega, fun _ => q l1 x (fun i u w => y i u (by omega)), fun h => by omega⟩
    | succ m ih =>
      intro k l1 h x y
      refine B29_p12_8 _ _ _ _ _ ⟨by omega, fun h => by omega, fun _ => ⟨by omega, ih (k + 1) _ (by omega) (sf_up x _ _) (fun i u w => ?_)⟩⟩
      by_cases e : i = k
      · rw [e]; simp [iq_uz]
      · rw [← y i u (by omega)]; simp [iq_uz, e]
  exact B29_8 _ _ _ _ (key 60 0 l (by omega) (fun _ _ => rfl) (fun i u w => by omega))
theorem sp27 {N : Nat} {xs : Nat → Int32} {Q : iq_T} {g : iq_I} {l : iq_J} {t : Int} (ht : -2147483648 ≤ t ∧ t ≤ 2147483647) (qn : ¬ (0 ≤ t ∧ t < 4) → Q (some iq_n) g l) (q0 : t = 0 → Q (some (iq_r 2)) g l) (q1 : t = 1 → Q (some (iq_r 4)) g l) (q2 : t = 2 → Q (some (iq_r 6)) g l) (q3 : t = 3 → Q (some (iq_r 8)) g l) : iq_P N xs 27 0 [some (iq_r 0), some (iq_i t)] [] g l Q := by
  refine B27_0 _ _ _ ⟨by omega, fun c => qn (by omega), fun c1 => ⟨by omega, fun c => qn (by omega), fun c2 => ?_⟩⟩
  have : t = 0 ∨ t = 1 ∨ t = 2 ∨ t = 3 := by omega
  rcases this with e | e | e | e
  · rw [e]; exact B27_c0 _ _ ⟨by omega, q0 e⟩
  · rw [e]; exact B27_c1 _ _ ⟨by omega, q1 e⟩
  · rw [e]; exact B27_c2 _ _ ⟨by omega, q2 e⟩
  · rw [e]; exact B27_c3 _ _ ⟨by omega, q3 e⟩
/-- why a call about a place is refused: 0 if it isn't -/
def sf_wt (g : iq_I) (t p : Int) : Int := if 0 ≤ t ∧ t < 4 then sf_wp (g 80 t) p else 1
theorem cWrite {N : Nat} {xs : Nat → Int32} {Q : iq_T} {g : iq_I} {l : iq_J} {t p : Int} {v : Int64} (hT : iq_TR g l) (ht : -2147483648 ≤ t ∧ t ≤ 2147483647) (hp : -2147483648 ≤ p ∧ p ≤ 2147483647) (q1 : sf_wt g t p = 0 → Q (some (iq_i 1)) (iq_uz g 0 0 0) (iq_uz l (3 + 2 * t.toNat) p (sf_cut (g 79 t) v))) (q0 : ¬ sf_wt g t p = 0 → Q (some (iq_i 0)) (iq_uz g 0 0 (sf_wt g t p)) l) : iq_P N xs 40 0 [some (iq_r 0), some (iq_i t), some (iq_i p), some (iq_l v), none, none, none] [] g l Q := by
  unfold sf_wt at q1 q0
  have T0 := hT 0 (by omega)
  have T1 := hT 1 (by omega)
  have T2 := hT 2 (by omega)
  have T3 := hT 3 (by omega)
  refine B40_0 _ _ _ _ _ (sp27 ht (fun c => ?_) (fun e => ?_) (fun e => ?_) (fun e => ?_) (fun e => ?_))
  · rw [if_neg c] at q0
    exact B40_q5_null _ _ _ _ _ (B37_null _ _ _ ⟨_, rfl, sp28 ⟨_, rfl, .inl rfl, q0 (by omega)⟩⟩)
  · subst e
    obtain ⟨a1, a2, a3, a4, a5⟩ := T0
    simp at a1 a2
    rw [if_pos (by omega)] at q1 q0
    refine B40_q5_2 _ _ _ _ _ (sp37_2 hp (by simp at a4; omega) ⟨_, rfl, ?_⟩)
    rw [a2]
    refine ⟨by have := sf_wpR (g 80 0) p; omega, fun z => sp39_2 (by simp at a3; omega) (by simp at a4; omega) (by rw [a2]; exact sf_wp0 z) ⟨rfl, sp30 ⟨_, rfl, .inr rfl, ?_⟩⟩, fun z => sp28 ⟨_, rfl, .inl rfl, q0 z⟩⟩
    rw [a1]; exact q1 z
  · subst e
    obtain ⟨a1, a2, a3, a4, a5⟩ := T1
    simp at a1 a2
    rw [if_pos (by omega)] at q1 q0
    refine B40_q5_4 _ _ _ _ _ (sp37_4 hp (by simp at a4; omega) ⟨_, rfl, ?_⟩)
    rw [a2]
    refine ⟨by have := sf_wpR (g 80 1) p; omega, fun z => sp39_4 (by simp at a3; omega) (by simp at a4; omega) (by rw [a2]; exact sf_wp0 z) ⟨rfl, sp30 ⟨_, rfl, .inr rfl, ?_⟩⟩, fun z => sp28 ⟨_, rfl, .inl rfl, q0 z⟩⟩
    rw [a1]; exact q1 z
  · subst e
    obtain ⟨a1, a2, a3, a4, a5⟩ := T2
    simp at a1 a2
    rw [if_pos (by omega)] at q1 q0
    refine B40_q5_6 _ _ _ _ _ (sp37_6 hp (by simp at a4; omega) ⟨_, rfl, ?_⟩)
    rw [a2]
    refine ⟨by have := sf_wpR (g 80 2) p; omega, fun z => sp39_6 (by simp at a3; omega) (by simp at a4; omega) (by rw [a2]; exact sf_wp0 z) ⟨rfl, sp30 ⟨_, rfl, .inr rfl, ?_⟩⟩, fun z => sp28 ⟨_, rfl, .inl rfl, q0 z⟩⟩
    rw [a1]; exact q1 z
  · subst e
    obtain ⟨a1, a2, a3, a4, a5⟩ := T3
    simp at a1 a2
    rw [if_pos (by omega)] at q1 q0
    refine B40_q5_8 _ _ _ _ _ (sp37_8 hp (by simp at a4; omega) ⟨_, rfl, ?_⟩)
    rw [a2]
    refine ⟨by have := sf_wpR (g 80 3) p; omega, fun z => sp39_8 (by simp at a3; omega) (by simp at a4; omega) (by rw [a2]; exact sf_wp0 z) ⟨rfl, sp30 ⟨_, rfl, .inr rfl, ?_⟩⟩, fun z => sp28 ⟨_, rfl, .inl rfl, q0 z⟩⟩
    rw [a1]; exact q1 z
theorem sp32 {N : Nat} {xs : Nat → Int32} {Q : iq_T} {g : iq_I} {l : iq_J} {t : Int} (ht : -2147483648 ≤ t ∧ t ≤ 2147483647) (q1 : 0 ≤ t ∧ t < 4 → Q (some (iq_i 1)) g l) (q0 : ¬ (0 ≤ t ∧ t < 4) → Q (some (iq_i 0)) g l) : iq_P N xs 32 0 [some (iq_i t)] [] g l Q :=
  B32 _ _ _ ⟨by omega, fun c => q0 (by omega), fun c1 => ⟨by omega, fun c => q0 (by omega), fun c2 => q1 ⟨c1, c2⟩⟩⟩
theorem sf_TRt {g : iq_I} {l : iq_J} (hT : iq_TR g l) {t : Int} (h : 0 ≤ t ∧ t < 4) : (0 ≤ g 79 t ∧ g 79 t ≤ 3) ∧ (-1 ≤ g 80 t ∧ g 80 t ≤ 60) := by
  obtain ⟨n, rfl⟩ : ∃ n : Nat, t = n := ⟨t.toNat, by omega⟩
  have := hT n (by omega)
  exact ⟨this.2.2.1, this.2.2.2.1⟩
theorem sp41 {N : Nat} {xs : Nat → Int32} {Q : iq_T} {g : iq_I} {l : iq_J} {t p : Int} (hT : iq_TR g l) (ht : -2147483648 ≤ t ∧ t ≤ 2147483647) (hp : -2147483648 ≤ p ∧ p ≤ 2147483647) (q : Q (some (iq_i (sf_wt g t p))) g l) : iq_P N xs 41 0 [some (iq_r 77), some (iq_i t), some (iq_i p)] [] g l Q := by
  unfold sf_wt sf_wp at q
  refine B41_77 _ _ _ _ (sp32 ht (fun c => ⟨_, rfl, by omega, fun _ => ?_, fun h => by omega⟩) (fun c => ⟨_, rfl, by omega, fun h => by omega, fun _ => ?_⟩))
  · rw [if_pos c] at q
    have tR := sf_TRt hT c
    refine ⟨c, by omega, fun d => ⟨by omega, fun e => ?_, fun e => ⟨c, by omega, fun f => ?_, fun f => ?_⟩⟩, fun d => ?_⟩
    · rw [if_neg d, if_neg (by omega)] at q; exact q
    · rw [if_neg d, if_pos ⟨e, f⟩] at q; exact q
    · rw [if_neg d, if_neg (by omega)] at q; exact q
    · rw [if_pos d] at q; exact q
  · rw [if_neg c] at q; exact q
theorem sp42 {N : Nat} {xs : Nat → Int32} {Q : iq_T} {g : iq_I} {l : iq_J} {x : Int64} {s : Int} (hs : 0 ≤ s ∧ s ≤ 3) (q : Q (some (iq_l (sf_cut s x))) g l) : iq_P N xs 42 0 [some (iq_l x), none, some (iq_i s)] [] g l Q := by
  unfold sf_cut at q
  refine B42 _ _ _ _ ⟨by omega, fun c0 => ⟨by omega, fun c1 => ⟨by omega, fun c2 => ?_, fun c2 => ?_⟩, fun c1 => ?_⟩, fun c0 => ?_⟩
  · rw [if_neg c0, if_neg c1, if_neg c2] at q; exact q
  · rw [if_neg c0, if_neg c1, if_pos c2] at q; exact q
  · rw [if_neg c0, if_pos c1] at q; exact q
  · rw [if_pos c0] at q; exact q
theorem sf_wt0 {g : iq_I} {l : iq_J} (hT : iq_TR g l) {t p : Int} (h : sf_wt g t p = 0) : (0 ≤ t ∧ t < 4) ∧ 0 ≤ p ∧ p < g 80 t ∧ g 80 t ≤ 60 := by
  unfold sf_wt at h
  split at h
  · next c => exact ⟨c, (sf_wp0 h).1, (sf_wp0 h).2, (sf_TRt hT c).2.2⟩
  · omega
theorem sf_wtR (g : iq_I) (t p : Int) : 0 ≤ sf_wt g t p ∧ sf_wt g t p ≤ 3 := by
  unfold sf_wt
  split
  · exact sf_wpR _ _
  · omega
theorem mWrite {N : Nat} {xs : Nat → Int32} {Q : iq_T} {g : iq_I} {l : iq_J} {t p : Int} {v : Int64} (hT : iq_TR g l) (ht : -2147483648 ≤ t ∧ t ≤ 2147483647) (hp : -2147483648 ≤ p ∧ p ≤ 2147483647) (q1 : sf_wt g t p = 0 → Q (some (iq_i 1)) (iq_uz g 77 1 0) (iq_uz l 81 (60 * t + p) (sf_cut (g 79 t) v))) (q0 : ¬ sf_wt g t p = 0 → Q (some (iq_i 0)) (iq_uz g 77 1 (sf_wt g t p)) l) : iq_P N xs 43 0 [some (iq_r 77), some (iq_i t), some (iq_i p), some (iq_l v), none, none] [] g l Q := by
  have hR := sf_wtR g t p
  refine B43_77 _ _ _ _ _ (sp41 hT ht hp ⟨_, rfl, by omega, fun c => sp33 (by omega) (fun h => absurd h c) (fun _ => ⟨_, rfl, .inl rfl, q0 c⟩), fun c => ?_⟩)
  have w := sf_wt0 hT c
  rw [c]
  exact ⟨w.1, sp42 (sf_TRt hT w.1).1 ⟨_, rfl, by omega, sp33 (by omega) (fun _ => ⟨_, rfl, .inr rfl, q1 c⟩) (fun h => by omega)⟩⟩
theorem mRead {N : Nat} {xs : Nat → Int32} {Q : iq_T} {g : iq_I} {l : iq_J} {t p : Int} (hT : iq_TR g l) (ht : -2147483648 ≤ t ∧ t ≤ 2147483647) (hp : -2147483648 ≤ p ∧ p ≤ 2147483647) (q1 : sf_wt g t p = 0 → Q (some (iq_l (l 81 (60 * t + p)))) (iq_uz g 77 1 0) l) (q0 : ¬ sf_wt g t p = 0 → Q (some (iq_l (-1))) (iq_uz g 77 1 (sf_wt g t p)) l) : iq_P N xs 47 0 [some (iq_r 77), some (iq_i t), some (iq_i p)] [] g l Q := by
  have hR := sf_wtR g t p
  refine B47_77 _ _ _ _ (sp41 hT ht hp ⟨_, rfl, by omega, fun c => ?_, fun c => ?_⟩)
  · have c' : sf_wt g t p = 0 := by omega
    have w := sf_wt0 hT c'
    rw [c']
    exact ⟨by omega, q1 c'⟩
  · rw [show Int64.ofNat 18446744073709551615 = -1 by decide]
    exact q0 (by omega)
theorem cStatus {N : Nat} {xs : Nat → Int32} {Q : iq_T} {g : iq_I} {l : iq_J} (q : Q (some (iq_i (g 0 0))) g l) : iq_P N xs 21 0 [some (iq_r 0)] [] g l Q := B21_0 _ _ q
theorem mStatus {N : Nat} {xs : Nat → Int32} {Q : iq_T} {g : iq_I} {l : iq_J} (q : Q (some (iq_i (g 77 1))) g l) : iq_P N xs 22 0 [some (iq_r 77)] [] g l Q := B22_77 _ _ q
theorem cTop {N : Nat} {xs : Nat → Int32} {Q : iq_T} {g : iq_I} {l : iq_J} (q : Q (some (iq_l (l 0 1))) g l) : iq_P N xs 23 0 [some (iq_r 0)] [] g l Q := B23_0 _ _ q
theorem mTop {N : Nat} {xs : Nat → Int32} {Q : iq_T} {g : iq_I} {l : iq_J} (q : Q (some (iq_l (l 77 2))) g l) : iq_P N xs 24 0 [some (iq_r 77)] [] g l Q := B24_77 _ _ q
theorem cBottom {N : Nat} {xs : Nat → Int32} {Q : iq_T} {g : iq_I} {l : iq_J} (q : Q (some (iq_l (l 0 2))) g l) : iq_P N xs 25 0 [some (iq_r 0)] [] g l Q := B25_0 _ _ q
theorem mBottom {N : Nat} {xs : Nat → Int32} {Q : iq_T} {g : iq_I} {l : iq_J} (q : Q (some (iq_l (l 77 3))) g l) : iq_P N xs 26 0 [some (iq_r 77)] [] g l Q := B26_77 _ _ q
