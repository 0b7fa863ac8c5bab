/-! Shapes in the model. -/
def sf_mk (g : iq_I) (R : Int → Prop) : Prop := ∀ k, 0 ≤ k → k < 3600 → (R k ∧ g 94 k = 1) ∨ (¬ R k ∧ g 94 k = 0)
theorem sf_mk.set {g : iq_I} {R R' : Int → Prop} (h : sf_mk g R) (k0 : Int) (e : ∀ k, R' k ↔ (R k ∨ k = k0)) : sf_mk (iq_uz g 94 k0 1) R' := by
  intro k a b
  by_cases c : k = k0
  · left
    exact ⟨(e k).mpr (.inr c), by rw [c]; simp [iq_uz]⟩
  · have : (iq_uz g 94 k0 1) 94 k = g 94 k := by simp [iq_uz, c]
    rw [this]
    rcases h k a b with ⟨x, y⟩ | ⟨x, y⟩
    · exact .inl ⟨(e k).mpr (.inl x), y⟩
    · exact .inr ⟨fun z => ((e k).mp z).elim x c, y⟩
theorem sf_mk.congr {g : iq_I} {R R' : Int → Prop} (h : sf_mk g R) (e : ∀ k, R k ↔ R' k) : sf_mk g R' := by
  intro k a b
  rcases h k a b with ⟨x, y⟩ | ⟨x, y⟩
  · exact .inl ⟨(e k).mp x, y⟩
  · exact .inr ⟨fun z => x ((e k).mpr z), y⟩
theorem sf_94 {g g0 : iq_I} (h : ∀ j, ¬ j = 94 → g j = g0 j) (k0 v : Int) : ∀ j, ¬ j = 94 → (iq_uz g 94 k0 v) j = g0 j := by
  intro j hj
  rw [← h j hj]; funext i; simp [iq_uz, hj]
theorem iq_KK94 {g g' : iq_I} {l : iq_J} (h : ∀ j, ¬ j = 94 → g' j = g j) : iq_KK g l g' l := by
  refine iq_KK.ofg (fun j k hb => ?_)
  rw [h j (fun e => by rw [e] at hb; simp [iq_sx] at hb)]
theorem sp296_s {N : Nat} {xs : Nat → Int32} {Q : iq_T} {g : iq_I} {l : iq_J} {n : Int} (R : Int → Bool) (hR : ∀ k, 0 ≤ k → k < 3600 → (R k = true ∧ g 94 k = 1) ∨ (R k = false ∧ g 94 k = 0)) (q : Q (some (iq_i (iq_cn R 3600))) (iq_uz g 77 1 0) l) (m : Nat) : ∀ (k : Nat) (d4 d5 : Option iq_V), k + m = 3600 → iq_P N xs 296 190 [some (iq_r 77), some (iq_i n), some (iq_i (iq_cn R k)), some (iq_i k), d4, d5] [] g l Q := by
  induction m with
  | zero =>
    intro k d4 d5 h
    rw [show k = 3600 by omega]
    exact B296_p190_77 _ _ _ _ _ _ _ ⟨by omega, fun _ => sp115 ⟨_, rfl, q⟩, fun h => by omega⟩
  | succ m ih =>
    intro k d4 d5 h
    have nx := fun d4 d5 => ih (k + 1) d4 d5 (by omega)
    rw [iq_cn] at nx
    refine B296_p190_77 _ _ _ _ _ _ _ ⟨by omega, fun h => by omega, fun _ => ⟨by omega, ?_⟩⟩
    rcases hR k (by omega) (by omega) with ⟨a, b⟩ | ⟨a, b⟩
    · rw [a] at nx
      rw [b]
      exact ⟨by decide, fun h => by omega, fun _ => nx _ _⟩
    · rw [a] at nx
      rw [b]
      exact ⟨by decide, fun _ => nx _ _, fun h => by omega⟩
theorem sp296_c {N : Nat} {xs : Nat → Int32} {Q : iq_T} {g : iq_I} {l : iq_J} {n v : Int} (q : ∀ g' : iq_I, (∀ j, ¬ j = 94 → g' j = g j) → sf_mk g' (fun _ => False) → iq_P N xs 296 48 [some (iq_r 77), some (iq_i n), some (iq_i v), some (iq_i 0), none, none] [] g' l Q) (m : Nat) : ∀ (k : Nat) (g1 : iq_I), k + m = 3600 → (∀ j, ¬ j = 94 → g1 j = g j) → (∀ i : Int, 0 ≤ i → i < k → g1 94 i = 0) → iq_P N xs 296 26 [some (iq_r 77), some (iq_i n), some (iq_i v), some (iq_i k), none, none] [] g1 l Q := by
  induction m with
  | zero =>
    intro k g1 h a b
    exact B296_p26_77 _ _ _ _ _ ⟨by omega, fun _ => q g1 a (fun i x y => .inr ⟨fun h => h, b i x (by omega)⟩), fun h => by omega⟩
  | succ m ih =>
    intro k g1 h a b
    refine B296_p26_77 _ _ _ _ _ ⟨by omega, fun h => by omega, fun _ => ⟨by omega, ih (k + 1) _ (by omega) (sf_94 a _ _) (fun i x y => ?_)⟩⟩
    by_cases e : i = k
    · rw [e]; simp [iq_uz]
    · rw [← b i x (by omega)]; simp [iq_uz, e]
section SM
variable {N : Nat} {xs : Nat → Int32} {Q : iq_T} {g : iq_I} {l : iq_J}
/-- innermost, of triples -/
theorem sp296_f {v d e : Int} (hr : iq_rg (g 85) (g 77 26) (g 78 1)) (h60 : g 78 1 ≤ 60) (h24 : g 77 26 ≤ 24) (hd : 0 ≤ d ∧ d < e ∧ e < g 77 26) {R : Int → Prop} (q : ∀ (g' : iq_I) (d5 : Option iq_V), (∀ j, ¬ j = 94 → g' j = g j) → sf_mk g' (fun k => R k ∨ ∃ f, e < f ∧ f < g 77 26 ∧ 60 * (g 85 e - g 85 d) + (g 85 f - g 85 d) = k) → iq_P N xs 296 73 [some (iq_r 77), some (iq_i 3), some (iq_i v), some (iq_i d), some (iq_i (e + 1)), d5] [] g' l Q) (m : Nat) : ∀ (g1 : iq_I) (i : Int), e < i → i + m = g 77 26 → (∀ j, ¬ j = 94 → g1 j = g j) → sf_mk g1 (fun k => R k ∨ ∃ f, e < f ∧ f < i ∧ 60 * (g 85 e - g 85 d) + (g 85 f - g 85 d) = k) → iq_P N xs 296 118 [some (iq_r 77), some (iq_i 3), some (iq_i v), some (iq_i d), some (iq_i e), some (iq_i i)] [] g1 l Q := by
  induction m with
  | zero =>
    intro g1 i h1 h2 hg hk
    have e26 : g1 77 26 = g 77 26 := by rw [hg 77 (by decide)]
    rw [show i = g 77 26 by omega] at hk ⊢
    exact B296_p118_77 _ _ _ _ _ _ _ ⟨by omega, fun _ => q g1 _ hg hk, fun h => by omega⟩
  | succ m ih =>
    intro g1 i h1 h2 hg hk
    have e26 : g1 77 26 = g 77 26 := by rw [hg 77 (by decide)]
    have e85 : g1 85 = g 85 := hg 85 (by decide)
    have a1 := hr.2.1 d hd.1 (by omega)
    have a2 := hr.2.1 e (by omega) hd.2.2
    have a3 := hr.2.1 i (by omega) (by omega)
    have a4 := hr.2.2 d e hd.1 hd.2.1 hd.2.2
    have a5 := hr.2.2 d i hd.1 (by omega) (by omega)
    have := ih (iq_uz g1 94 (60 * (g 85 e - g 85 d) + g 85 i - g 85 d) 1) (i + 1) (by omega) (by omega) (sf_94 hg _ _) (hk.set _ (fun k => by
      constructor
      · rintro (x | ⟨f, x, y, z⟩)
        · exact .inl (.inl x)
        · by_cases c : f = i
          · right; rw [c] at z; omega
          · exact .inl (.inr ⟨f, x, by omega, z⟩)
      · rintro ((x | ⟨f, x, y, z⟩) | x)
        · exact .inl x
        · exact .inr ⟨f, x, by omega, z⟩
        · exact .inr ⟨i, h1, by omega, by omega⟩))
    refine B296_p118_77 _ _ _ _ _ _ _ ⟨by omega, fun h => by omega, fun _ => ⟨by omega, fun h => by omega, fun _ => ⟨by omega, by omega, by omega, by omega, ?_⟩⟩⟩
    rw [e85]
    exact ⟨by omega, this⟩
/-- middle, of triples -/
theorem sp296_e3 {v d : Int} (hr : iq_rg (g 85) (g 77 26) (g 78 1)) (h60 : g 78 1 ≤ 60) (h24 : g 77 26 ≤ 24) (hd : 0 ≤ d ∧ d < g 77 26) {R : Int → Prop} (q : ∀ (g' : iq_I) (d4 d5 : Option iq_V), (∀ j, ¬ j = 94 → g' j = g j) → sf_mk g' (fun k => R k ∨ ∃ e f, d < e ∧ e < f ∧ f < g 77 26 ∧ 60 * (g 85 e - g 85 d) + (g 85 f - g 85 d) = k) → iq_P N xs 296 48 [some (iq_r 77), some (iq_i 3), some (iq_i v), some (iq_i (d + 1)), d4, d5] [] g' l Q) (m : Nat) : ∀ (g1 : iq_I) (i : Int) (d5 : Option iq_V), d < i → i + m = g 77 26 → (∀ j, ¬ j = 94 → g1 j = g j) → sf_mk g1 (fun k => R k ∨ ∃ e f, d < e ∧ e < i ∧ e < f ∧ f < g 77 26 ∧ 60 * (g 85 e - g 85 d) + (g 85 f - g 85 d) = k) → iq_P N xs 296 73 [some (iq_r 77), some (iq_i 3), some (iq_i v), some (iq_i d), some (iq_i i), d5] [] g1 l Q := by
  induction m with
  | zero =>
    intro g1 i d5 h1 h2 hg hk
    have e26 : g1 77 26 = g 77 26 := by rw [hg 77 (by decide)]
    refine B296_p73_77 _ _ _ _ _ _ _ ⟨by omega, fun _ => q g1 _ _ hg (hk.congr (fun k => ?_)), fun h => by omega⟩
    constructor
    · rintro (x | ⟨e, f, a, b, c, h⟩)
      · exact .inl x
      · exact .inr ⟨e, f, a, c, h⟩
    · rintro (x | ⟨e, f, a, c, h⟩)
      · exact .inl x
      · exact .inr ⟨e, f, a, by omega, c, h⟩
  | succ m ih =>
    intro g1 i d5 h1 h2 hg hk
    have e26 : g1 77 26 = g 77 26 := by rw [hg 77 (by decide)]
    refine B296_p73_77 _ _ _ _ _ _ _ ⟨by omega, fun h => by omega, fun _ => ⟨by omega, fun h => by omega, fun _ => ⟨by omega, fun _ => ?_, fun h => by omega⟩⟩⟩
    refine sp296_f (g := g) hr h60 h24 ⟨hd.1, h1, by omega⟩ (fun g' d5 hg' hk' => ih g' (i + 1) d5 (by omega) (by omega) hg' (hk'.congr (fun k => ?_))) (g 77 26 - (i + 1)).toNat g1 (i + 1) (by omega) (by omega) hg (hk.congr (R' := fun k => (R k ∨ ∃ e f, d < e ∧ e < i ∧ e < f ∧ f < g 77 26 ∧ 60 * (g 85 e - g 85 d) + (g 85 f - g 85 d) = k) ∨ ∃ f, i < f ∧ f < i + 1 ∧ 60 * (g 85 i - g 85 d) + (g 85 f - g 85 d) = k) (fun k => ?_))
    · constructor
      · rintro ((x | ⟨e, f, a, b, c⟩) | ⟨f, a, b, c⟩)
        · exact .inl x
        · exact .inr ⟨e, f, a, by omega, c⟩
        · exact .inr ⟨i, f, h1, by omega, a, b, c⟩
      · rintro (x | ⟨e, f, a, b, c, d', h⟩)
        · exact .inl (.inl x)
        · by_cases z : e = i
          · rw [z] at c h; exact .inr ⟨f, c, d', h⟩
          · exact .inl (.inr ⟨e, f, a, by omega, c, d', h⟩)
    · constructor
      · intro x; exact .inl x
      · rintro (x | ⟨f, a, b, c⟩)
        · exact x
        · omega
/-- pairs -/
theorem sp296_e2 {v d : Int} (hr : iq_rg (g 85) (g 77 26) (g 78 1)) (h60 : g 78 1 ≤ 60) (h24 : g 77 26 ≤ 24) (hd : 0 ≤ d ∧ d < g 77 26) {R : Int → Prop} (q : ∀ (g' : iq_I) (d4 d5 : Option iq_V), (∀ j, ¬ j = 94 → g' j = g j) → sf_mk g' (fun k => R k ∨ ∃ e, d < e ∧ e < g 77 26 ∧ g 85 e - g 85 d = k) → iq_P N xs 296 48 [some (iq_r 77), some (iq_i 2), some (iq_i v), some (iq_i (d + 1)), d4, d5] [] g' l Q) (m : Nat) : ∀ (g1 : iq_I) (i : Int) (d5 : Option iq_V), d < i → i + m = g 77 26 → (∀ j, ¬ j = 94 → g1 j = g j) → sf_mk g1 (fun k => R k ∨ ∃ e, d < e ∧ e < i ∧ g 85 e - g 85 d = k) → iq_P N xs 296 73 [some (iq_r 77), some (iq_i 2), some (iq_i v), some (iq_i d), some (iq_i i), d5] [] g1 l Q := by
  induction m with
  | zero =>
    intro g1 i d5 h1 h2 hg hk
    have e26 : g1 77 26 = g 77 26 := by rw [hg 77 (by decide)]
    rw [show i = g 77 26 by omega] at hk ⊢
    exact B296_p73_77 _ _ _ _ _ _ _ ⟨by omega, fun _ => q g1 _ _ hg hk, fun h => by omega⟩
  | succ m ih =>
    intro g1 i d5 h1 h2 hg hk
    have e26 : g1 77 26 = g 77 26 := by rw [hg 77 (by decide)]
    have e85 : g1 85 = g 85 := hg 85 (by decide)
    have a1 := hr.2.1 d hd.1 (by omega)
    have a2 := hr.2.1 i (by omega) (by omega)
    have a4 := hr.2.2 d i hd.1 h1 (by omega)
    have nx := fun d5 => ih (iq_uz g1 94 (g 85 i - g 85 d) 1) (i + 1) d5 (by omega) (by omega) (sf_94 hg _ _) (hk.set _ (fun k => by
      constructor
      · rintro (x | ⟨f, x, y, z⟩)
        · exact .inl (.inl x)
        · by_cases c : f = i
          · right; rw [c] at z; omega
          · exact .inl (.inr ⟨f, x, by omega, z⟩)
      · rintro ((x | ⟨f, x, y, z⟩) | x)
        · exact .inl x
        · exact .inr ⟨f, x, by omega, z⟩
        · exact .inr ⟨i, h1, by omega, by omega⟩))
    have e26' : (iq_uz g1 94 (g 85 i - g 85 d) 1) 77 26 = g 77 26 := by rw [← e26]; simp [iq_uz]
    refine B296_p73_77 _ _ _ _ _ _ _ ⟨by omega, fun h => by omega, fun _ => ⟨by omega, fun h => by omega, fun _ => ⟨by omega, fun h => by omega, fun _ => ⟨by omega, by omega, ?_⟩⟩⟩⟩
    rw [e85]
    refine ⟨by omega, B296_p118_77 _ _ _ _ _ _ _ ⟨by omega, fun _ => nx _, fun _ => ⟨by omega, fun _ => nx _, fun h => by omega⟩⟩⟩
/-- outermost -/
theorem sp296_o {v n : Int} (h24 : g 77 26 ≤ 24) (hn : ¬ n = 1 ∧ -2147483648 ≤ n ∧ n ≤ 2147483647) {C : Int → Int → Prop} (step : ∀ (d : Int) (R : Int → Prop) (g1 : iq_I) (d5 : Option iq_V), 0 ≤ d → d < g 77 26 → (∀ j, ¬ j = 94 → g1 j = g j) → sf_mk g1 R → (∀ (g' : iq_I) (d4 d5 : Option iq_V), (∀ j, ¬ j = 94 → g' j = g j) → sf_mk g' (fun k => R k ∨ C d k) → iq_P N xs 296 48 [some (iq_r 77), some (iq_i n), some (iq_i v), some (iq_i (d + 1)), d4, d5] [] g' l Q) → iq_P N xs 296 73 [some (iq_r 77), some (iq_i n), some (iq_i v), some (iq_i d), some (iq_i (d + 1)), d5] [] g1 l Q) (q : ∀ (g' : iq_I) (d4 d5 : Option iq_V), (∀ j, ¬ j = 94 → g' j = g j) → sf_mk g' (fun k => ∃ d, 0 ≤ d ∧ d < g 77 26 ∧ C d k) → iq_P N xs 296 190 [some (iq_r 77), some (iq_i n), some (iq_i v), some (iq_i 0), d4, d5] [] g' l Q) (m : Nat) : ∀ (g1 : iq_I) (d : Int) (d4 d5 : Option iq_V), 0 ≤ d → d + m = g 77 26 → (∀ j, ¬ j = 94 → g1 j = g j) → sf_mk g1 (fun k => ∃ e, 0 ≤ e ∧ e < d ∧ C e k) → iq_P N xs 296 48 [some (iq_r 77), some (iq_i n), some (iq_i v), some (iq_i d), d4, d5] [] g1 l Q := by
  induction m with
  | zero =>
    intro g1 d d4 d5 h1 h2 hg hk
    have e26 : g1 77 26 = g 77 26 := by rw [hg 77 (by decide)]
    rw [show d = g 77 26 by omega] at hk ⊢
    exact B296_p48_77 _ _ _ _ _ _ _ ⟨by omega, fun _ => q g1 _ _ hg hk, fun h => by omega⟩
  | succ m ih =>
    intro g1 d d4 d5 h1 h2 hg hk
    have e26 : g1 77 26 = g 77 26 := by rw [hg 77 (by decide)]
    refine B296_p48_77 _ _ _ _ _ _ _ ⟨by omega, fun h => by omega, fun _ => ⟨by omega, fun _ => step d _ g1 _ h1 (by omega) hg hk (fun g' d4 d5 hg' hk' => ih g' (d + 1) d4 d5 (by omega) (by omega) hg' (hk'.congr (fun k => ?_))), fun h => by omega⟩⟩
    constructor
    · rintro (⟨e, a, b, c⟩ | c)
      · exact ⟨e, a, by omega, c⟩
      · exact ⟨d, h1, by omega, c⟩
    · rintro ⟨e, a, b, c⟩
      by_cases z : e = d
      · rw [z] at c; exact .inr c
      · exact .inl ⟨e, a, by omega, c⟩
/-- single tones -/
theorem sp296_1 {v : Int} (h24 : g 77 26 ≤ 24) (q : ∀ (g' : iq_I) (d4 d5 : Option iq_V), (∀ j, ¬ j = 94 → g' j = g j) → sf_mk g' (fun k => k = 0) → iq_P N xs 296 190 [some (iq_r 77), some (iq_i 1), some (iq_i v), some (iq_i 0), d4, d5] [] g' l Q) (m : Nat) : ∀ (g1 : iq_I) (d : Int) (d4 d5 : Option iq_V), 0 ≤ d → d + m = g 77 26 → (∀ j, ¬ j = 94 → g1 j = g j) → (0 < d ∧ sf_mk g1 (fun k => k = 0) ∨ (d = 0 ∧ 0 < m ∧ sf_mk g1 (fun _ => False))) → iq_P N xs 296 48 [some (iq_r 77), some (iq_i 1), some (iq_i v), some (iq_i d), d4, d5] [] g1 l Q := by
  induction m with
  | zero =>
    intro g1 d d4 d5 h1 h2 hg hk
    have e26 : g1 77 26 = g 77 26 := by rw [hg 77 (by decide)]
    rcases hk with hk | hk
    · exact B296_p48_77 _ _ _ _ _ _ _ ⟨by omega, fun _ => q g1 _ _ hg hk.2, fun h => by omega⟩
    · omega
  | succ m ih =>
    intro g1 d d4 d5 h1 h2 hg hk
    have e26 : g1 77 26 = g 77 26 := by rw [hg 77 (by decide)]
    have hg2 := sf_94 hg 0 1
    have e26' : (iq_uz g1 94 0 1) 77 26 = g 77 26 := by rw [← e26]; simp [iq_uz]
    have hk2 : sf_mk (iq_uz g1 94 0 1) (fun k => k = 0) := by
      rcases hk with hk | hk
      · exact hk.2.set 0 (fun k => by omega)
      · exact hk.2.2.set 0 (fun k => by simp)
    have nx := fun d4 d5 => ih (iq_uz g1 94 0 1) (d + 1) d4 d5 (by omega) (by omega) hg2 (.inl ⟨by omega, hk2⟩)
    refine B296_p48_77 _ _ _ _ _ _ _ ⟨by omega, fun h => by omega, fun _ => ⟨by omega, fun h => by omega, fun _ => ?_⟩⟩
    refine B296_p73_77 _ _ _ _ _ _ _ ⟨by omega, fun _ => nx _ _, fun _ => ⟨by omega, fun _ => nx _ _, fun h => by omega⟩⟩
end SM
theorem mShapes {N : Nat} {xs : Nat → Int32} {Q : iq_T} {g : iq_I} {l : iq_J} {n : Int} (hs : iq_SR g l 23 24 25 0) (hn : -2147483648 ≤ n ∧ n ≤ 2147483647) (q : ∀ (g' : iq_I) (l' : iq_J), iq_KK g l g' l' → g' 0 0 = g 0 0 → g' 77 1 = (aShapes (g 24) n).2 → Q (some (iq_i (aShapes (g 24) n).1)) g' l') : iq_P N xs 296 0 [some (iq_r 77), some (iq_i n), none, none, none, none] [] g l Q := by
  have hp := hs.1
  have hp1 := hp.2.1
  have hp3 := hp.2.2.2.1
  have hm := iq_mR hp
  have en := iq_i2lv hn.1 hn.2
  have e3 : (Int64.ofNat 3).toInt = 3 := by decide
  have e1 : (1 : Int64).toInt = 1 := by decide
  unfold aShapes at q
  refine B296_77 _ _ _ (sp149 (fun a b => ⟨_, rfl, by omega, fun _ => sp114c hs (fun g' f1 f2 f3 => ⟨rfl, ?_⟩), fun h => by omega⟩) (fun a => ⟨_, rfl, by omega, fun h => by omega, fun _ => sp98 ⟨_, rfl, ?_⟩⟩))
  · rw [en] at a b
    have e26 : g' 77 26 = iq_m (g 24) := f3.1
    have e85 : ∀ d, 0 ≤ d → d < iq_m (g 24) → g' 85 d = iq_t (g 24) d := f3.2.1
    have e78 : g' 78 1 = g 24 1 := by rw [f1 78 (by decide) (.inl (by decide))]; exact hs.p78 1 (by omega) (by omega)
    have hr : iq_rg (g' 85) (g' 77 26) (g' 78 1) := by
      rw [e26, e78]
      exact iq_rg_congr e85 (iq_trg hp)
    have k0 := iq_KKl (l := l) f1 f2
    have kz : g' 0 0 = g 0 0 := congrFun (f1 0 (by decide) (.inl (by decide))) 0
    rw [if_neg (by omega)] at q
    refine sp296_c (g := g') (fun g2 hg2 hk2 => ?_) 3600 0 g' (by omega) (fun _ _ => rfl) (fun i x y => by omega)
    have fin : ∀ (R : Int → Bool) (g3 : iq_I), (∀ j, ¬ j = 94 → g3 j = g' j) → sf_mk g3 (fun k => R k = true) → ∀ k, 0 ≤ k → k < 3600 → (R k = true ∧ g3 94 k = 1) ∨ (R k = false ∧ g3 94 k = 0) := by
      intro R g3 _ hk3 k x y
      rcases hk3 k x y with z | z
      · exact .inl z
      · refine .inr ⟨?_, z.2⟩
        rcases hb : R k with _ | _
        · rfl
        · exact (z.1 hb).elim
    have kk : ∀ g3 : iq_I, (∀ j, ¬ j = 94 → g3 j = g' j) → iq_KK g l (iq_uz g3 77 1 0) l ∧ (iq_uz g3 77 1 0) 0 0 = g 0 0 ∧ (iq_uz g3 77 1 0) 77 1 = 0 := by
      intro g3 hg3
      refine ⟨(k0.trans (iq_KK94 hg3)).uz iq_sx771, ?_, by simp [iq_uz]⟩
      rw [← kz, ← hg3 0 (by decide)]; simp [iq_uz]
    by_cases c1 : n = 1
    · rw [if_pos c1] at q
      rw [c1]
      refine sp296_1 (g := g') (by omega) (fun g3 d4 d5 hg3 hk3 => ?_) (iq_m (g 24)).toNat g2 0 none none (by omega) (by omega) hg2 (.inr ⟨rfl, by omega, hk2⟩)
      refine sp296_s (fun k => decide (k = 0)) (fin _ g3 hg3 (hk3.congr (fun k => by simp))) ?_ 3600 0 d4 d5 (by omega)
      obtain ⟨x, y, z⟩ := kk g3 hg3
      have e : iq_cn (fun k => decide (k = 0)) 3600 = 1 := by
        rw [iq_cn_ext (a := 1) (b := 3600) (by omega) (fun i u v => by simp; omega)]
        rfl
      rw [e]
      exact q _ _ x y z
    · rw [if_neg c1] at q
      by_cases c2 : n = 2
      · rw [if_pos c2] at q
        rw [c2]
        refine sp296_o (g := g') (n := 2) (C := fun d k => ∃ e, d < e ∧ e < g' 77 26 ∧ g' 85 e - g' 85 d = k) (by omega) (by omega) (fun d R g3 d5 x y hg3 hk3 qq => ?_) (fun g3 d4 d5 hg3 hk3 => ?_) (iq_m (g 24)).toNat g2 0 none none (by omega) (by omega) hg2 (hk2.congr (fun k => ?_))
        · refine sp296_e2 (g := g') hr (by omega) (by omega) ⟨x, y⟩ qq (g' 77 26 - (d + 1)).toNat g3 (d + 1) d5 (by omega) (by omega) hg3 (hk3.congr (fun k => ?_))
          constructor
          · intro z; exact .inl z
          · rintro (z | ⟨e, z1, z2, z3⟩)
            · exact z
            · omega
        · refine sp296_s (sf_pr (g 24)) (fin _ g3 hg3 (hk3.congr (fun k => ?_))) ?_ 3600 0 d4 d5 (by omega)
          · rw [sf_pri]
            constructor
            · rintro ⟨d, z1, z2, e, z3, z4, z5⟩
              rw [e85 e (by omega) (by omega), e85 d (by omega) (by omega)] at z5
              exact ⟨d, e, z1, z3, by omega, z5⟩
            · rintro ⟨d, e, z1, z2, z3, z4⟩
              exact ⟨d, z1, by omega, e, z2, by omega, by rw [e85 e (by omega) (by omega), e85 d (by omega) (by omega)]; exact z4⟩
          · obtain ⟨x, y, z⟩ := kk g3 hg3
            rw [iq_cn_ext (f := sf_pr (g 24)) (a := 64) (b := 3600) (by omega) (fun i u v => ?_)]
            · exact q _ _ x y z
            · rcases hb : sf_pr (g 24) i with _ | _
              · rfl
              · have := sf_prR hp hb; omega
        · constructor
          · intro z; exact z.elim
          · rintro ⟨e, z1, z2, z3⟩; omega
      · rw [if_neg c2] at q
        rw [show n = 3 by omega]
        refine sp296_o (g := g') (n := 3) (C := fun d k => ∃ e f, d < e ∧ e < f ∧ f < g' 77 26 ∧ 60 * (g' 85 e - g' 85 d) + (g' 85 f - g' 85 d) = k) (by omega) (by omega) (fun d R g3 d5 x y hg3 hk3 qq => ?_) (fun g3 d4 d5 hg3 hk3 => ?_) (iq_m (g 24)).toNat g2 0 none none (by omega) (by omega) hg2 (hk2.congr (fun k => ?_))
        · refine sp296_e3 (g := g') hr (by omega) (by omega) ⟨x, y⟩ qq (g' 77 26 - (d + 1)).toNat g3 (d + 1) d5 (by omega) (by omega) hg3 (hk3.congr (fun k => ?_))
          constructor
          · intro z; exact .inl z
          · rintro (z | ⟨e, f, z1, z2, z3⟩)
            · exact z
            · omega
        · refine sp296_s (sf_tr (g 24)) (fin _ g3 hg3 (hk3.congr (fun k => ?_))) ?_ 3600 0 d4 d5 (by omega)
          · rw [sf_tri]
            constructor
            · rintro ⟨d, z1, z2, e, f, z3, z4, z5, z6⟩
              rw [e85 e (by omega) (by omega), e85 d (by omega) (by omega), e85 f (by omega) (by omega)] at z6
              exact ⟨d, e, f, z1, z3, z4, by omega, z6⟩
            · rintro ⟨d, e, f, z1, z2, z3, z4, z5⟩
              exact ⟨d, z1, by omega, e, f, z2, z3, by omega, by rw [e85 e (by omega) (by omega), e85 d (by omega) (by omega), e85 f (by omega) (by omega)]; exact z5⟩
          · obtain ⟨x, y, z⟩ := kk g3 hg3
            exact q _ _ x y z
        · constructor
          · intro z; exact z.elim
          · rintro ⟨e, z1, z2, z3⟩; omega
  · rw [en] at a
    rw [if_pos (by omega)] at q
    exact q _ _ ((iq_KK.refl _ _).uz iq_sx771) (by simp [iq_uz]) (by simp [iq_uz])
