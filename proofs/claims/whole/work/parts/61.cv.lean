/-! Convergents. -/
def sf_ci (p q : Int) : Nat → Int × Int × Int × Int × Int × Int
  | 0 => (p, q, 0, 1, 1, 0)
  | n + 1 => if (sf_ci p q n).2.1 ≤ 0 then sf_ci p q n else ((sf_ci p q n).2.1, (sf_ci p q n).1 % (sf_ci p q n).2.1, (sf_ci p q n).1 / (sf_ci p q n).2.1 * (sf_ci p q n).2.2.1 + (sf_ci p q n).2.2.2.2.1, (sf_ci p q n).1 / (sf_ci p q n).2.1 * (sf_ci p q n).2.2.2.1 + (sf_ci p q n).2.2.2.2.2, (sf_ci p q n).2.2.1, (sf_ci p q n).2.2.2.1)
theorem sf_ciS {p q : Int} {n : Nat} {x y A B C D : Int} (h : sf_ci p q n = (x, y, A, B, C, D)) (hy : 0 < y) : sf_ci p q (n + 1) = (y, x % y, x / y * A + C, x / y * B + D, A, B) := by
  rw [sf_ci, h]
  exact if_neg (show ¬ y ≤ 0 by omega)
theorem sf_ciI {p q : Int} (hq : 0 ≤ q ∧ q < p) (n : Nat) : ∀ x y A B C D : Int, sf_ci p q n = (x, y, A, B, C, D) → (0 ≤ y ∧ y < x ∧ x ≤ p) ∧ 0 ≤ A ∧ 1 ≤ B ∧ 0 ≤ C ∧ 0 ≤ D ∧ x * A + y * C = q ∧ x * B + y * D = p ∧ (y + n ≤ q ∨ y = 0) := by
  induction n with
  | zero =>
    intro x y A B C D h
    rw [sf_ci] at h
    injection h with h1 h
    injection h with h2 h
    injection h with h3 h
    injection h with h4 h
    injection h with h5 h6
    subst h1 h2 h3 h4 h5 h6
    refine ⟨by omega, by omega, by omega, by omega, by omega, by omega, by omega, by omega⟩
  | succ n ih =>
    intro x' y' A' B' C' D' h
    rcases hs : sf_ci p q n with ⟨x, y, A, B, C, D⟩
    obtain ⟨i1, i2, i3, i4, i5, i6, i7, i8⟩ := ih x y A B C D hs
    by_cases hy : 0 < y
    · rw [sf_ciS hs hy] at h
      injection h with h1 h
      injection h with h2 h
      injection h with h3 h
      injection h with h4 h
      injection h with h5 h6
      subst h1 h2 h3 h4 h5 h6
      have r1 := Int.emod_nonneg x (show y ≠ 0 by omega)
      have r2 := Int.emod_lt_of_pos x hy
      have r3 := Int.emod_add_mul_ediv x y
      have a0 : 0 ≤ x / y := Int.ediv_nonneg (by omega) (by omega)
      have a1 : 1 ≤ x / y := by
        refine Classical.byContradiction (fun hc => ?_)
        have : x / y = 0 := by omega
        rw [this] at r3
        omega
      have b1 : 0 ≤ x / y * A := Int.mul_nonneg a0 i2
      have b2 : B ≤ x / y * B := by
        have := Int.mul_le_mul_of_nonneg_right a1 (show 0 ≤ B by omega)
        rw [Int.one_mul] at this
        exact this
      refine ⟨⟨r1, r2, by omega⟩, by omega, by omega, by omega, by omega, ?_, ?_, by omega⟩
      · rw [← i6]
        have e : x * A = (x % y + y * (x / y)) * A := by rw [r3]
        rw [e, Int.mul_add, Int.add_mul, Int.mul_assoc]
        omega
      · rw [← i7]
        have e : x * B = (x % y + y * (x / y)) * B := by rw [r3]
        rw [e, Int.mul_add, Int.add_mul, Int.mul_assoc]
        omega
    · have h' : sf_ci p q (n + 1) = sf_ci p q n := by
        rw [sf_ci, hs]
        exact if_pos (show y ≤ 0 by omega)
      rw [h', hs] at h
      injection h with h1 h
      injection h with h2 h
      injection h with h3 h
      injection h with h4 h
      injection h with h5 h6
      subst h1 h2 h3 h4 h5 h6
      exact ⟨i1, i2, i3, i4, i5, i6, i7, by omega⟩
theorem sf_ciR {p q : Int} (hq : 0 ≤ q ∧ q < p) (hp : p ≤ 60) {n : Nat} {x y A B C D : Int} (h : sf_ci p q n = (x, y, A, B, C, D)) : (0 ≤ y ∧ y < x ∧ x ≤ 60) ∧ (0 ≤ A ∧ A ≤ 60) ∧ (1 ≤ B ∧ B ≤ 60) ∧ (0 < y → (0 ≤ C ∧ C ≤ 60) ∧ (0 ≤ D ∧ D ≤ 60) ∧ n ≤ 58) := by
  obtain ⟨i1, i2, i3, i4, i5, i6, i7, i8⟩ := sf_ciI hq n x y A B C D h
  have one : ∀ u v : Int, 1 ≤ u → 0 ≤ v → v ≤ u * v := by
    intro u v hu hv
    have := Int.mul_le_mul_of_nonneg_right hu hv
    rw [Int.one_mul] at this
    exact this
  have a1 := one x A (by omega) i2
  have a2 := one x B (by omega) (by omega)
  have a3 : 0 ≤ y * C := Int.mul_nonneg i1.1 i4
  have a4 : 0 ≤ y * D := Int.mul_nonneg i1.1 i5
  have a5 : 0 ≤ x * A := Int.mul_nonneg (by omega) i2
  have a6 : 0 ≤ x * B := Int.mul_nonneg (by omega) (by omega)
  refine ⟨by omega, by omega, by omega, fun hy => ?_⟩
  have b1 := one y C (by omega) i4
  have b2 := one y D (by omega) i5
  refine ⟨by omega, by omega, by omega⟩
def sf_fz (p q : Int) : Nat → Nat → Nat
  | 0, n => n
  | f + 1, n => if (sf_ci p q n).2.1 ≤ 0 then n else sf_fz p q f (n + 1)
theorem sf_fzI (p q : Int) (f : Nat) : ∀ n, (n ≤ sf_fz p q f n ∧ sf_fz p q f n ≤ n + f) ∧ (∀ i, n ≤ i → i < sf_fz p q f n → 0 < (sf_ci p q i).2.1) ∧ (sf_fz p q f n < n + f → (sf_ci p q (sf_fz p q f n)).2.1 ≤ 0) := by
  induction f with
  | zero => intro n; rw [sf_fz]; exact ⟨by omega, fun i a b => by omega, fun h => by omega⟩
  | succ f ih =>
    intro n
    rw [sf_fz]
    by_cases c : (sf_ci p q n).2.1 ≤ 0
    · rw [if_pos c]
      exact ⟨by omega, fun i a b => by omega, fun _ => c⟩
    · rw [if_neg c]
      obtain ⟨a, b, d⟩ := ih (n + 1)
      refine ⟨by omega, fun i x y => ?_, fun h => d (by omega)⟩
      by_cases e : i = n
      · rw [e]; omega
      · exact b i (by omega) y
def sf_cc (P : Int → Int) : Nat := sf_fz (P 1) (P 2) 60 0
theorem sf_ccI {P : Int → Int} (hp : iq_pb P) : sf_cc P ≤ 59 ∧ (∀ i, i < sf_cc P → 0 < (sf_ci (P 1) (P 2) i).2.1) ∧ (sf_ci (P 1) (P 2) (sf_cc P)).2.1 ≤ 0 := by
  have hp1 := hp.2.1
  have hp2 := hp.2.2.1
  obtain ⟨a, b, c⟩ := sf_fzI (P 1) (P 2) 60 0
  have h59 : sf_cc P ≤ 59 := by
    refine Classical.byContradiction (fun hc => ?_)
    have h := b 59 (by omega) (by have : sf_cc P = sf_fz (P 1) (P 2) 60 0 := rfl; omega)
    rcases hs : sf_ci (P 1) (P 2) 59 with ⟨x, y, A, B, C, D⟩
    rw [hs] at h
    have := (sf_ciR (by omega) (by omega) hs).2.2.2 h
    omega
  exact ⟨h59, fun i h => b i (by omega) h, c (by have : sf_cc P = sf_fz (P 1) (P 2) 60 0 := rfl; omega)⟩
def aConvergents (P : Int → Int) : Int := sf_cc P + 1
theorem sp297_p {N : Nat} {xs : Nat → Int32} {Q : iq_T} {g : iq_I} {l : iq_J} (hs : iq_SR g l 23 24 25 0) (q : Q (some (iq_i (aConvergents (g 24)))) (iq_uz g 0 0 0) l) (m : Nat) : ∀ (n : Nat) (x y A B C D : Int) (d5 : Option iq_V), n + m = sf_cc (g 24) → sf_ci (g 24 1) (g 24 2) n = (x, y, A, B, C, D) → iq_P N xs 297 22 [some (iq_r 0), some (iq_i x), some (iq_i y), some (iq_i ((n : Int) + 1)), some (iq_i n), d5] [] g l Q := by
  have hp1 := hs.1.2.1
  have hp2 := hs.1.2.2.1
  obtain ⟨c1, c2, c3⟩ := sf_ccI hs.1
  induction m with
  | zero =>
    intro n x y A B C D d5 h hn
    have hR := sf_ciR (by omega) (by omega) hn
    rw [← show n = sf_cc (g 24) by omega, hn] at c3
    have c3 : y ≤ 0 := c3
    unfold aConvergents at q
    rw [← show n = sf_cc (g 24) by omega] at q
    exact B297_p22_0 _ _ _ _ _ _ _ ⟨by omega, fun h => by omega, fun _ => ⟨by omega, fun _ => sp90 ⟨_, rfl, q⟩, fun h => by omega⟩⟩
  | succ m ih =>
    intro n x y A B C D d5 h hn
    have hR := sf_ciR (by omega) (by omega) hn
    have hy := c2 n (by omega)
    rw [hn] at hy
    have hy : 0 < y := hy
    refine B297_p22_0 _ _ _ _ _ _ _ ⟨by omega, fun h => by omega, fun _ => ⟨by omega, fun h => by omega, fun _ => ⟨by omega, ?_⟩⟩⟩
    rw [Int.tmod_eq_emod_of_nonneg (by omega)]
    exact ih (n + 1) _ _ _ _ _ _ _ (by omega) (sf_ciS hn hy)
theorem cConvergents {N : Nat} {xs : Nat → Int32} {Q : iq_T} {g : iq_I} {l : iq_J} (hs : iq_SR g l 23 24 25 0) (q : ∀ (g' : iq_I) (l' : iq_J), iq_KK g l g' l' → g' 0 0 = 0 → Q (some (iq_i (aConvergents (g 24)))) g' l') : iq_P N xs 297 0 [some (iq_r 0), none, none, none, none, none] [] g l Q :=
  B297_0 _ _ (B80_23 _ _ ⟨_, rfl, sp135_23 (by omega) ⟨_, rfl, sp297_p hs (q _ _ ((iq_KK.refl _ _).uz iq_sx00) (by simp [iq_uz])) (sf_cc (g 24)) 0 _ _ _ _ _ _ none (by omega) rfl⟩⟩)
theorem sf_l3 {a b c : Int} (ha : 0 ≤ a ∧ a ≤ 60) (hb : 0 ≤ b ∧ b ≤ 60) (hc : 0 ≤ c ∧ c ≤ 60) : iq_i2l a * iq_i2l b + iq_i2l c = iq_i2l (a * b + c) := by
  have m := iq_mulR ha.1 ha.2 hb.1 hb.2
  apply Int64.toInt_inj.mp
  have e1 : (iq_i2l a * iq_i2l b).toInt = a * b := by
    rw [Int64.toInt_mul, iq_i2lv (by omega) (by omega), iq_i2lv (by omega) (by omega)]
    exact Int.bmod_eq_of_le (by omega) (by omega)
  rw [Int64.toInt_add, e1, iq_i2lv (by omega) (by omega), iq_i2lv (by omega) (by omega)]
  exact Int.bmod_eq_of_le (by omega) (by omega)
def sf_cA (P : Int → Int) (n : Nat) : Int := (sf_ci (P 1) (P 2) n).2.2.1
def sf_cB (P : Int → Int) (n : Nat) : Int := (sf_ci (P 1) (P 2) n).2.2.2.1
theorem sf_cvfb {P : Int → Int} (hp : iq_pb P) (n : Nat) : sf_fb (iq_i2l (sf_cA P n)) (iq_i2l (sf_cB P n)) := by
  have hp1 := hp.2.1
  have hp2 := hp.2.2.1
  rcases hs : sf_ci (P 1) (P 2) n with ⟨x, y, A, B, C, D⟩
  have hR := sf_ciR (by omega) (by omega) hs
  have e1 : sf_cA P n = A := by unfold sf_cA; rw [hs]
  have e2 : sf_cB P n = B := by unfold sf_cB; rw [hs]
  unfold sf_fb
  rw [e1, e2, iq_i2lv (by omega) (by omega), iq_i2lv (by omega) (by omega)]
  refine ⟨by omega, by omega, ?_⟩
  have : (2 : Int) ^ 60 = 1152921504606846976 := by decide
  omega
def aConvergent (P : Int → Int) (k : Int) : Int64 × Int64 := sf_tl (iq_i2l (sf_cA P k.toNat)) (iq_i2l (sf_cB P k.toNat))
theorem sp302_p {N : Nat} {xs : Nat → Int32} {Q : iq_T} {g : iq_I} {l : iq_J} {k : Int} {s : Nat} (hs : iq_SR g l 23 24 25 0) (hk : 0 ≤ k ∧ k ≤ 2147483647) (h60 : s ≤ 59) (hy : ∀ i, i < s → 0 < (sf_ci (g 24 1) (g 24 2) i).2.1) (hlt : (s : Int) ≤ k) (hend : (sf_ci (g 24 1) (g 24 2) s).2.1 ≤ 0 ∨ k ≤ s) (q : ∀ (x y : Int) (C D : Int64) (d14 d15 d16 d18 : Option iq_V), iq_P N xs 302 125 [some (iq_r 0), some (iq_i k), some (iq_i x), some (iq_i y), some (iq_l (iq_i2l (sf_cA (g 24) s))), none, some (iq_l (iq_i2l (sf_cB (g 24) s))), none, some (iq_l C), none, some (iq_l D), none, some (iq_i s), some (iq_i s), d14, d15, d16, none, d18, none] [] g l Q) (m : Nat) : ∀ (n : Nat) (x y A B C D : Int) (d14 d15 d16 d18 : Option iq_V), n + m = s → sf_ci (g 24 1) (g 24 2) n = (x, y, A, B, C, D) → iq_P N xs 302 46 [some (iq_r 0), some (iq_i k), some (iq_i x), some (iq_i y), some (iq_l (iq_i2l A)), none, some (iq_l (iq_i2l B)), none, some (iq_l (iq_i2l C)), none, some (iq_l (iq_i2l D)), none, some (iq_i n), some (iq_i n), d14, d15, d16, none, d18, none] [] g l Q := by
  have hp1 := hs.1.2.1
  have hp2 := hs.1.2.2.1
  induction m with
  | zero =>
    intro n x y A B C D d14 d15 d16 d18 h hn
    have hR := sf_ciR (by omega) (by omega) hn
    have en : n = s := by omega
    rw [← en] at hend q hlt
    have e1 : sf_cA (g 24) n = A := by unfold sf_cA; rw [hn]
    have e2 : sf_cB (g 24) n = B := by unfold sf_cB; rw [hn]
    rw [hn] at hend
    rw [e1, e2] at q
    have hend : y ≤ 0 ∨ k ≤ n := hend
    refine B302_p46_0 _ _ _ _ _ _ _ _ _ _ _ _ _ _ _ ⟨by omega, fun h => by omega, fun _ => ⟨by omega, fun _ => q _ _ _ _ _ _ _ _, fun c => ?_⟩⟩
    exact B302_p57_0 _ _ _ _ _ _ _ _ _ _ _ _ _ _ _ ⟨by omega, fun _ => q _ _ _ _ _ _ _ _, fun h => by omega⟩
  | succ m ih =>
    intro n x y A B C D d14 d15 d16 d18 h hn
    have hR := sf_ciR (by omega) (by omega) hn
    have hyn := hy n (by omega)
    rw [hn] at hyn
    have hyn : 0 < y := hyn
    have hC := hR.2.2.2 hyn
    have hS := sf_ciS hn hyn
    have a0 : 0 ≤ x / y := Int.ediv_nonneg (by omega) (by omega)
    have a1 : x / y ≤ x := Int.ediv_le_self y (by omega)
    refine B302_p46_0 _ _ _ _ _ _ _ _ _ _ _ _ _ _ _ ⟨by omega, fun h => by omega, fun _ => ⟨by omega, fun h => by omega, fun _ => ?_⟩⟩
    refine B302_p57_0 _ _ _ _ _ _ _ _ _ _ _ _ _ _ _ ⟨by omega, fun h => by omega, fun _ => ⟨by omega, ?_⟩⟩
    refine B302_p68_0 _ _ _ _ _ _ _ _ _ _ _ _ _ _ _ ⟨by omega, ?_⟩
    refine B302_p84_0 _ _ _ _ _ _ _ _ _ _ _ _ _ _ _ ?_
    refine B302_p95_0 _ _ _ _ _ _ _ _ _ _ _ _ _ _ _ ?_
    refine B302_p107_0 _ _ _ _ _ _ _ _ _ _ _ _ _ _ _ ?_
    refine B302_p116_0 _ _ _ _ _ _ _ _ _ _ _ _ _ _ _ ?_
    rw [Int.tdiv_eq_ediv_of_nonneg (by omega), Int.tmod_eq_emod_of_nonneg (by omega), sf_l3 (by omega) (by omega) (by omega), sf_l3 (by omega) (by omega) (by omega)]
    exact ih (n + 1) _ _ _ _ _ _ _ _ _ _ (by omega) hS
theorem cConvergent {N : Nat} {xs : Nat → Int32} {Q : iq_T} {g : iq_I} {l : iq_J} {k : Int} (hs : iq_SR g l 23 24 25 0) (hk : -2147483648 ≤ k ∧ k ≤ 2147483647) (q1 : 0 ≤ k ∧ k ≤ sf_cc (g 24) → ∀ (g' : iq_I) (l' : iq_J), iq_KF g l g' l' → g' 0 0 = 0 → l' 0 1 = (aConvergent (g 24) k).1 → l' 0 2 = (aConvergent (g 24) k).2 → l' 77 2 = l 77 2 → l' 77 3 = l 77 3 → Q (some (iq_i 1)) g' l') (q0 : ¬ (0 ≤ k ∧ k ≤ sf_cc (g 24)) → ∀ (g' : iq_I) (l' : iq_J), iq_KK g l g' l' → g' 0 0 = 6 → Q (some (iq_i 0)) g' l') : iq_P N xs 302 0 [some (iq_r 0), some (iq_i k), none, none, none, none, none, none, none, none, none, none, none, none, none, none, none, none, none, none] [] g l Q := by
  obtain ⟨c1, c2, c3⟩ := sf_ccI hs.1
  have no : ¬ (0 ≤ k ∧ k ≤ sf_cc (g 24)) → iq_P N xs 28 0 [some (iq_r 0), some (iq_i 6)] [] g l (fun r g1 l2 => ∃ z3, r = some (iq_i z3) ∧ ((z3 = 0 ∨ z3 = 1) ∧ Q (some (iq_i z3)) g1 l2)) := fun c => sp28 ⟨_, rfl, .inl rfl, q0 c _ _ ((iq_KK.refl _ _).uz iq_sx00) (by simp [iq_uz])⟩
  refine B302_0 _ _ _ ⟨by omega, fun c => B80_23 _ _ ⟨_, rfl, B302_p19_0 _ _ _ _ (sp135_23 (by omega) ⟨_, rfl, B302_p28_0 _ _ _ _ _ (B302_p37_0 _ _ _ _ _ _ _ _ ?_)⟩)⟩, fun c => no (by omega)⟩
  have i0 : iq_i2l 0 = 0 := by decide
  have i1 : iq_i2l 1 = 1 := by decide
  by_cases d : k ≤ sf_cc (g 24)
  · obtain ⟨k', rfl⟩ : ∃ z : Nat, k = z := ⟨k.toNat, by omega⟩
    have q1 := q1 ⟨c, d⟩
    have := sp302_p (N := N) (xs := xs) (Q := Q) (g := g) (l := l) (k := k') (s := k') hs (by omega) (by omega) (fun i hi => c2 i (by omega)) (by omega) (.inr (by omega)) (fun x y C D d14 d15 d16 d18 => ?_) k' 0 _ _ _ _ _ _ none none none none (by omega) rfl
    · rw [i0, i1] at this
      exact this
    · refine B302_p125_0 _ _ _ _ _ _ _ _ _ _ _ _ _ _ _ ⟨by omega, fun h => by omega, fun _ => B302_p131_0 _ _ _ _ _ _ _ _ _ _ _ _ _ _ _ ?_⟩
      exact sp301 (sf_cvfb hs.1 k') ⟨_, rfl, .inr rfl, q1 _ _ ((iq_KK.refl g l).tellc 0 _ _) (by simp [iq_uz]) (by simp [iq_uz]; rfl) (by simp [iq_uz]; rfl) (by simp [iq_uz]) (by simp [iq_uz])⟩
  · have := sp302_p (N := N) (xs := xs) (Q := Q) (g := g) (l := l) (k := k) (s := sf_cc (g 24)) hs (by omega) (by omega) (fun i hi => c2 i (by omega)) (by omega) (.inl c3) (fun x y C D d14 d15 d16 d18 => ?_) (sf_cc (g 24)) 0 _ _ _ _ _ _ none none none none (by omega) rfl
    · rw [i0, i1] at this
      exact this
    · exact B302_p125_0 _ _ _ _ _ _ _ _ _ _ _ _ _ _ _ ⟨by omega, fun _ => B302_p142_0 _ _ _ _ _ _ _ _ _ _ _ _ _ _ _ (no (by omega)), fun h => by omega⟩
/-! the model -/
theorem iq_KKcv {g : iq_I} {l l' : iq_J} (h : ∀ j, ¬ j = 97 → ¬ j = 98 → l' j = l j) : iq_KK g l g l' := by
  refine ⟨rfl, iq_co_of (fun j k hb => ?_), ?_, ?_, ?_, ?_⟩
  · rw [h j (fun e => by rw [e] at hb; simp [iq_sx] at hb) (fun e => by rw [e] at hb; simp [iq_sx] at hb)]
  · rw [h 0 (by decide) (by decide)]
  · rw [h 0 (by decide) (by decide)]
  · rw [h 77 (by decide) (by decide)]
  · rw [h 77 (by decide) (by decide)]
theorem sp298_p {N : Nat} {xs : Nat → Int32} {Q : iq_T} {g : iq_I} {l : iq_J} {P : Int → Int} (hp : iq_pb P) (q : ∀ l' : iq_J, (∀ j, ¬ j = 97 → ¬ j = 98 → l' j = l j) → (∀ i : Nat, i ≤ sf_cc P → l' 97 i = iq_i2l (sf_cA P i) ∧ l' 98 i = iq_i2l (sf_cB P i)) → Q (some (iq_i (aConvergents P))) g l') (m : Nat) : ∀ (n : Nat) (l1 : iq_J) (x y A B C D : Int) (d4 d5 d7 d9 : Option iq_V), n + m = sf_cc P → sf_ci (P 1) (P 2) n = (x, y, A, B, C, D) → (n = 0 → C = 1 ∧ D = 0) → (0 < n → C = sf_cA P (n - 1) ∧ D = sf_cB P (n - 1)) → (∀ j, ¬ j = 97 → ¬ j = 98 → l1 j = l j) → (∀ i : Nat, i ≤ n → l1 97 i = iq_i2l (sf_cA P i) ∧ l1 98 i = iq_i2l (sf_cB P i)) → iq_P N xs 298 30 [some (iq_r 77), some (iq_i ((n : Int) + 1)), some (iq_i x), some (iq_i y), d4, d5, none, d7, none, d9] [] g l1 Q := by
  have hp1 := hp.2.1
  have hp2 := hp.2.2.1
  obtain ⟨c1, c2, c3⟩ := sf_ccI hp
  have i0 : iq_i2l 0 = 0 := by decide
  have i1 : iq_i2l 1 = 1 := by decide
  induction m with
  | zero =>
    intro n l1 x y A B C D d4 d5 d7 d9 h hn z0 z1 hl hi
    have hR := sf_ciR (by omega) (by omega) hn
    rw [← show n = sf_cc P by omega, hn] at c3
    have c3 : y ≤ 0 := c3
    unfold aConvergents at q
    rw [← show n = sf_cc P by omega] at q
    exact B298_p30_77 _ _ _ _ _ _ _ _ _ ⟨by omega, fun _ => q l1 hl hi, fun h => by omega⟩
  | succ m ih =>
    intro n l1 x y A B C D d4 d5 d7 d9 h hn z0 z1 hl hi
    have hR := sf_ciR (by omega) (by omega) hn
    have hyn := c2 n (by omega)
    rw [hn] at hyn
    have hyn : 0 < y := hyn
    have hC := hR.2.2.2 hyn
    have hS := sf_ciS hn hyn
    have a0 : 0 ≤ x / y := Int.ediv_nonneg (by omega) (by omega)
    have a1 : x / y ≤ x := Int.ediv_le_self y (by omega)
    have eA : sf_cA P n = A := by unfold sf_cA; rw [hn]
    have eB : sf_cB P n = B := by unfold sf_cB; rw [hn]
    have eA1 : sf_cA P (n + 1) = x / y * A + C := by unfold sf_cA; rw [hS]
    have eB1 : sf_cB P (n + 1) = x / y * B + D := by unfold sf_cB; rw [hS]
    have h97 := (hi n (by omega)).1
    have h98 := (hi n (by omega)).2
    rw [eA] at h97
    rw [eB] at h98
    have es : (n : Int) + 1 - 1 = n := by omega
    have fin : ∀ (c d : Int64), c = iq_i2l C → d = iq_i2l D → iq_P N xs 298 98 [some (iq_r 77), some (iq_i ((n : Int) + 1)), some (iq_i x), some (iq_i y), some (iq_i (Int.tdiv x y)), some (iq_l c), none, some (iq_l d), none, iq_nv d9] [] g (iq_uz l1 97 ((n : Int) + 1) (iq_i2l (Int.tdiv x y) * l1 97 ((n : Int) + 1 - 1) + c)) Q := by
      intro c d hc hd
      rw [Int.tdiv_eq_ediv_of_nonneg (show 0 ≤ x by omega), es, h97, hc, hd, sf_l3 (by omega) (by omega) (by omega)]
      refine B298_p98_77 _ _ _ _ _ _ _ _ _ ⟨by omega, by omega, by omega, ?_⟩
      rw [Int.tmod_eq_emod_of_nonneg (by omega), es, show (iq_uz l1 97 ((n : Int) + 1) (iq_i2l (x / y * A + C))) 98 n = l1 98 n by simp [iq_uz], h98, sf_l3 (by omega) (by omega) (by omega)]
      refine ih (n + 1) _ _ _ _ _ _ _ _ _ _ _ (by omega) hS (fun e => by omega) (fun _ => ?_) (fun j a b => ?_) (fun i a => ?_)
      · rw [show n + 1 - 1 = n by omega, eA, eB]; exact ⟨rfl, rfl⟩
      · rw [← hl j a b]; funext i; simp [iq_uz, a, b]
      · by_cases e : i = n + 1
        · rw [e, eA1, eB1]
          constructor <;> simp [iq_uz]
        · have := hi i (by omega)
          rw [← this.1, ← this.2]
          have e' : ¬ (i : Int) = (n : Int) + 1 := by omega
          constructor <;> simp [iq_uz, e']
    refine B298_p30_77 _ _ _ _ _ _ _ _ _ ⟨by omega, fun h => by omega, fun _ => ⟨by omega, by omega, fun e => ⟨by omega, by omega, fun _ => ⟨by omega, by omega, by omega, ?_⟩, fun e2 => by omega⟩, fun e => ⟨by omega, fun e2 => by omega, fun _ => ⟨by omega, by omega, ?_⟩⟩⟩⟩
    · have z := z1 (by omega)
      have hm := hi (n - 1) (by omega)
      have ez : (n : Int) + 1 - 2 = ((n - 1 : Nat) : Int) := by omega
      exact fin _ _ (by rw [ez, hm.1, z.1]) (by rw [ez, hm.2, z.2])
    · have z := z0 (by omega)
      exact fin _ _ (by rw [z.1, i1]) (by rw [z.2, i0])
theorem sp298 {N : Nat} {xs : Nat → Int32} {Q : iq_T} {g : iq_I} {l : iq_J} (hs : iq_SR g l 23 24 25 0) (q : ∀ l' : iq_J, (∀ j, ¬ j = 97 → ¬ j = 98 → l' j = l j) → (∀ i : Nat, i ≤ sf_cc (g 24) → l' 97 i = iq_i2l (sf_cA (g 24) i) ∧ l' 98 i = iq_i2l (sf_cB (g 24) i)) → Q (some (iq_i (aConvergents (g 24)))) g l') : iq_P N xs 298 0 [some (iq_r 77), none, none, none, none, none, none, none, none, none] [] g l Q := by
  have i0 : iq_i2l 0 = 0 := by decide
  have i1 : iq_i2l 1 = 1 := by decide
  refine B298_77 _ _ ?_
  rw [hs.p78 1 (by omega) (by omega), hs.p78 2 (by omega) (by omega)]
  refine sp298_p (l := l) hs.1 q (sf_cc (g 24)) 0 _ _ _ _ _ _ _ none none none none (by omega) rfl (fun _ => ⟨rfl, rfl⟩) (fun h => by omega) (fun j a b => ?_) (fun i a => ?_)
  · funext k; simp [iq_uz, a, b]
  · rw [show i = 0 by omega]
    have e1 : sf_cA (g 24) 0 = 0 := rfl
    have e2 : sf_cB (g 24) 0 = 1 := rfl
    rw [e1, e2, i0, i1]
    constructor <;> simp [iq_uz]
theorem mConvergents {N : Nat} {xs : Nat → Int32} {Q : iq_T} {g : iq_I} {l : iq_J} (hs : iq_SR g l 23 24 25 0) (q : ∀ (g' : iq_I) (l' : iq_J), iq_KK g l g' l' → g' 0 0 = g 0 0 → g' 77 1 = 0 → Q (some (iq_i (aConvergents (g 24)))) g' l') : iq_P N xs 299 0 [some (iq_r 77)] [] g l Q :=
  B299_77 _ _ (sp298 hs (fun l' hl _ => ⟨_, rfl, sp115 ⟨_, rfl, q _ _ ((iq_KKcv hl).uz iq_sx771) (by simp [iq_uz]) (by simp [iq_uz])⟩⟩))
theorem mConvergent {N : Nat} {xs : Nat → Int32} {Q : iq_T} {g : iq_I} {l : iq_J} {k : Int} (hs : iq_SR g l 23 24 25 0) (hk : -2147483648 ≤ k ∧ k ≤ 2147483647) (q1 : 0 ≤ k ∧ k ≤ sf_cc (g 24) → ∀ (g' : iq_I) (l' : iq_J), iq_KF g l g' l' → g' 0 0 = g 0 0 → g' 77 1 = 0 → l' 77 2 = (aConvergent (g 24) k).1 → l' 77 3 = (aConvergent (g 24) k).2 → l' 0 1 = l 0 1 → l' 0 2 = l 0 2 → Q (some (iq_i 1)) g' l') (q0 : ¬ (0 ≤ k ∧ k ≤ sf_cc (g 24)) → ∀ (g' : iq_I) (l' : iq_J), iq_KK g l g' l' → g' 0 0 = g 0 0 → g' 77 1 = 6 → Q (some (iq_i 0)) g' l') : iq_P N xs 304 0 [some (iq_r 77), some (iq_i k), none] [] g l Q := by
  obtain ⟨c1, c2, c3⟩ := sf_ccI hs.1
  refine B304_77 _ _ _ (sp298 hs (fun l' hl hi => ⟨_, rfl, ?_⟩))
  have no : ¬ (0 ≤ k ∧ k ≤ sf_cc (g 24)) → iq_P N xs 33 0 [some (iq_r 77), some (iq_i 6)] [] g l' (fun r g1 l2 => ∃ z3, r = some (iq_i z3) ∧ ((z3 = 0 ∨ z3 = 1) ∧ Q (some (iq_i z3)) g1 l2)) := fun c => sp33 (by omega) (fun h => by omega) (fun _ => ⟨_, rfl, .inl rfl, q0 c _ _ ((iq_KKcv hl).uz iq_sx771) (by simp [iq_uz]) (by simp [iq_uz])⟩)
  have e : aConvergents (g 24) = sf_cc (g 24) + 1 := rfl
  rw [e]
  refine ⟨by omega, fun c => no (by omega), fun c => ⟨by omega, fun d => ⟨by omega, by omega, ?_⟩, fun d => no (by omega)⟩⟩
  have q1 := q1 ⟨c, by omega⟩
  obtain ⟨k', rfl⟩ : ∃ z : Nat, k = z := ⟨k.toNat, by omega⟩
  have z := hi k' (by omega)
  rw [z.1, z.2]
  exact sp303 (sf_cvfb hs.1 k') ⟨_, rfl, .inr rfl, q1 _ _ ((iq_KKcv (g := g) hl).tellm 0 _ _) (by simp [iq_uz]) (by simp [iq_uz]) (by simp [iq_uz]; rfl) (by simp [iq_uz]; rfl) (by simp [iq_uz]; rw [hl 0 (by decide) (by decide)]) (by simp [iq_uz]; rw [hl 0 (by decide) (by decide)])⟩
