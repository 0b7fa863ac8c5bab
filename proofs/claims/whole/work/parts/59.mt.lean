/-! Mistuned. -/
theorem iq_smS (f : Int → Int) (n : Nat) : iq_sm f (n + 1) = iq_sm f n + f n := rfl
/-- the row of parts behind n tones -/
def sf_rw (o : Int) : Nat → Int → Int64
  | 0, j => if j = 0 then 1 else 0
  | n + 1, j => if j = 0 then sf_rw o n 0 * iq_i2l (16 - o) else sf_rw o n j * iq_i2l (16 - o) + sf_rw o n (j - 1) * iq_i2l o
def sf_al : Nat → Int64
  | 0 => 1
  | n + 1 => sf_al n * Int64.ofNat 16
def sf_en (o : Int) (n : Nat) (k : Int) : Nat → Int64
  | 0 => 0
  | m + 1 => sf_en o n k m + sf_rw o n (k + m)
/-- the same over whole numbers -/
def sf_rI (o : Int) : Nat → Int → Int
  | 0, j => if j = 0 then 1 else 0
  | n + 1, j => if j = 0 then sf_rI o n 0 * (16 - o) else sf_rI o n j * (16 - o) + sf_rI o n (j - 1) * o
theorem sf_rI0 {o : Int} (h : 0 ≤ o ∧ o ≤ 16) (n : Nat) : ∀ j, 0 ≤ sf_rI o n j := by
  induction n with
  | zero => intro j; rw [sf_rI]; split <;> omega
  | succ n ih =>
    intro j
    rw [sf_rI]
    split
    · exact Int.mul_nonneg (ih 0) (by omega)
    · exact Int.add_nonneg (Int.mul_nonneg (ih j) (by omega)) (Int.mul_nonneg (ih (j - 1)) (by omega))
theorem sf_rIs {o : Int} (h : 0 ≤ o ∧ o ≤ 16) (n : Nat) : ∀ m : Nat, iq_sm (sf_rI o n) m ≤ 16 ^ n := by
  induction n with
  | zero =>
    intro m
    have : ∀ m : Nat, iq_sm (sf_rI o 0) m = if m = 0 then 0 else 1 := by
      intro m
      induction m with
      | zero => rfl
      | succ m ih =>
        rw [iq_sm, ih, sf_rI]
        by_cases c : m = 0
        · simp [c]
        · have : ¬ (m : Int) = 0 := by omega
          simp [c]
    rw [this]
    split <;> simp
  | succ n ih =>
    intro m
    have key : ∀ m : Nat, iq_sm (sf_rI o (n + 1)) (m + 1) = iq_sm (sf_rI o n) (m + 1) * (16 - o) + iq_sm (sf_rI o n) m * o := by
      intro m
      induction m with
      | zero => simp [iq_sm, sf_rI]
      | succ m im =>
        rw [iq_sm, im, sf_rI, if_neg (by omega)]
        rw [show ((m + 1 : Nat) : Int) - 1 = m by omega]
        rw [iq_smS (sf_rI o n) (m + 1), iq_smS (sf_rI o n) m]
        simp only [Int.add_mul]
        omega
    cases m with
    | zero =>
      have : (0 : Int) ≤ 16 ^ (n + 1) := Int.pow_nonneg (by omega)
      exact this
    | succ m =>
      rw [key m]
      have a := Int.mul_le_mul_of_nonneg_right (ih (m + 1)) (show 0 ≤ 16 - o by omega)
      have b := Int.mul_le_mul_of_nonneg_right (ih m) h.1
      have e : (16 : Int) ^ (n + 1) = 16 ^ n * (16 - o) + 16 ^ n * o := by
        rw [← Int.mul_add, Int.pow_succ]; congr 1; omega
      omega
theorem iq_sm_le {f : Int → Int} (h : ∀ j, 0 ≤ f j) (a b : Nat) (hab : a ≤ b) : iq_sm f a ≤ iq_sm f b := by
  induction b with
  | zero => rw [show a = 0 by omega]; omega
  | succ b ih =>
    by_cases c : a = b + 1
    · rw [c]; omega
    · have := ih (by omega)
      have := h b
      rw [iq_sm]
      omega
theorem iq_sm_one {f : Int → Int} (h : ∀ j, 0 ≤ f j) (a b : Nat) (hab : a < b) : f a ≤ iq_sm f b := by
  have h1 := iq_sm_le h (a + 1) b (by omega)
  rw [iq_sm] at h1
  have h2 : 0 ≤ iq_sm f a := by
    have := iq_sm_le h 0 a (by omega)
    exact this
  omega
theorem sf_p16 {n : Nat} (h : n ≤ 12) : (16 : Int) ^ n ≤ 281474976710656 ∧ 1 ≤ (16 : Int) ^ n := by
  have : n = 0 ∨ n = 1 ∨ n = 2 ∨ n = 3 ∨ n = 4 ∨ n = 5 ∨ n = 6 ∨ n = 7 ∨ n = 8 ∨ n = 9 ∨ n = 10 ∨ n = 11 ∨ n = 12 := by omega
  rcases this with h | h | h | h | h | h | h | h | h | h | h | h | h <;> subst h <;> decide
theorem sf_rIb {o : Int} (h : 0 ≤ o ∧ o ≤ 16) {n : Nat} (hn : n ≤ 12) {j : Int} (hj : 0 ≤ j) : 0 ≤ sf_rI o n j ∧ sf_rI o n j ≤ 281474976710656 := by
  have h1 := iq_sm_one (sf_rI0 h n) j.toNat (j.toNat + 1) (by omega)
  rw [Int.toNat_of_nonneg hj] at h1
  have h2 := sf_rIs h n (j.toNat + 1)
  have h3 := sf_p16 hn
  exact ⟨sf_rI0 h n j, by omega⟩
theorem sf_rwI {o : Int} (h : 0 ≤ o ∧ o ≤ 16) (n : Nat) (hn : n ≤ 12) : ∀ j, 0 ≤ j → (sf_rw o n j).toInt = sf_rI o n j := by
  induction n with
  | zero =>
    intro j _
    rw [sf_rw, sf_rI]
    split <;> decide
  | succ n ih =>
    intro j hj
    have ih := ih (by omega)
    have e1 : (iq_i2l (16 - o)).toInt = 16 - o := iq_i2lv (by omega) (by omega)
    have e2 : (iq_i2l o).toInt = o := iq_i2lv (by omega) (by omega)
    have b := sf_rIb h hn hj
    have mb : ∀ (x : Int) (c : Int), 0 ≤ x ∧ x ≤ 281474976710656 → 0 ≤ c ∧ c ≤ 16 → 0 ≤ x * c ∧ x * c ≤ 281474976710656 * 16 := fun x c hx hc => ⟨Int.mul_nonneg hx.1 hc.1, Int.mul_le_mul hx.2 hc.2 hc.1 (by omega)⟩
    rw [sf_rw, sf_rI]
    split
    · have b1 := mb _ (16 - o) (sf_rIb h (show n ≤ 12 by omega) (show (0 : Int) ≤ 0 by omega)) (by omega)
      rw [Int64.toInt_mul, ih 0 (by omega), e1]
      exact Int.bmod_eq_of_le (by omega) (by omega)
    · have b1 := mb _ (16 - o) (sf_rIb h (show n ≤ 12 by omega) hj) (by omega)
      have b2 := mb _ o (sf_rIb h (show n ≤ 12 by omega) (show 0 ≤ j - 1 by omega)) (by omega)
      have m1 : (sf_rw o n j * iq_i2l (16 - o)).toInt = sf_rI o n j * (16 - o) := by
        rw [Int64.toInt_mul, ih j hj, e1]
        exact Int.bmod_eq_of_le (by omega) (by omega)
      have m2 : (sf_rw o n (j - 1) * iq_i2l o).toInt = sf_rI o n (j - 1) * o := by
        rw [Int64.toInt_mul, ih (j - 1) (by omega), e2]
        exact Int.bmod_eq_of_le (by omega) (by omega)
      rw [Int64.toInt_add, m1, m2]
      exact Int.bmod_eq_of_le (by omega) (by omega)
theorem sf_alI (n : Nat) (hn : n ≤ 12) : (sf_al n).toInt = 16 ^ n := by
  induction n with
  | zero => decide
  | succ n ih =>
    have p := sf_p16 hn
    rw [sf_al, Int64.toInt_mul, ih (by omega), show (Int64.ofNat 16).toInt = 16 by decide, ← Int.pow_succ]
    exact Int.bmod_eq_of_le (by omega) (by omega)
theorem sf_enI {o : Int} (h : 0 ≤ o ∧ o ≤ 16) {n : Nat} (hn : n ≤ 12) {k : Nat} : ∀ m : Nat, (sf_en o n k m).toInt = iq_sm (sf_rI o n) (k + m) - iq_sm (sf_rI o n) k := by
  intro m
  induction m with
  | zero =>
    rw [sf_en, iq_of640, Nat.add_zero]; omega
  | succ m ih =>
    have h0 := iq_sm_le (sf_rI0 h n) 0 k (by omega)
    have h1 := iq_sm_le (sf_rI0 h n) k (k + m + 1) (by omega)
    have h2 := sf_rIs h n (k + m + 1)
    have h3 := sf_p16 hn
    have h0' : (0 : Int) ≤ iq_sm (sf_rI o n) k := h0
    rw [sf_en, Int64.toInt_add, ih, sf_rwI h n hn _ (by omega), show k + (m + 1) = (k + m) + 1 by omega]
    rw [show iq_sm (sf_rI o n) (k + m) - iq_sm (sf_rI o n) k + sf_rI o n ((k : Int) + m) = iq_sm (sf_rI o n) (k + m + 1) - iq_sm (sf_rI o n) k by
      rw [iq_smS (sf_rI o n) (k + m), show ((k + m : Nat) : Int) = (k : Int) + m by omega]; omega]
    exact Int.bmod_eq_of_le (by omega) (by omega)
theorem sf_mtfb {o : Int} (h : 0 ≤ o ∧ o ≤ 16) {n k : Nat} (hn : n ≤ 12) (hk : k ≤ 12) : sf_fb (sf_en o n k (13 - k)) (sf_al n) := by
  have h1 := iq_sm_le (sf_rI0 h n) k (k + (13 - k)) (by omega)
  have h3 := sf_p16 hn
  unfold sf_fb
  rw [sf_enI h hn, sf_alI n hn]
  refine ⟨by omega, by omega, ?_⟩
  have : (2 : Int) ^ 60 = 1152921504606846976 := by decide
  omega
def aMistuned (o n k : Int) : Int64 × Int64 := sf_tl (sf_en o n.toNat k (13 - k.toNat)) (sf_al n.toNat)
/-! the class -/
section MT
variable {N : Nat} {xs : Nat → Int32} {Q : iq_T} {g : iq_I} {l : iq_J}
theorem sf_up {l1 l : iq_J} {b : Nat} (h : ∀ j, ¬ j = b → l1 j = l j) (k : Int) (v : Int64) : ∀ j, ¬ j = b → (iq_uz l1 b k v) j = l j := by
  intro j hj
  rw [← h j hj]; funext i; simp [iq_uz, hj]
theorem sp309_c {n k o : Int} (q : ∀ l' : iq_J, (∀ j, ¬ j = 39 → l' j = l j) → (∀ j, 0 ≤ j → j ≤ 12 → l' 39 j = sf_rw o 0 j) → iq_P N xs 309 74 [some (iq_r 0), some (iq_i n), some (iq_i k), some (iq_i o), some (iq_l 1), none, some (iq_i 0), none, none] [] g l' Q) (m : Nat) : ∀ (i : Nat) (l1 : iq_J), i + m = 13 → (∀ j, ¬ j = 39 → l1 j = l j) → (∀ j : Int, 0 ≤ j → j < i → l1 39 j = sf_rw o 0 j) → iq_P N xs 309 38 [some (iq_r 0), some (iq_i n), some (iq_i k), some (iq_i o), some (iq_i i), none, none, none, none] [] g l1 Q := by
  induction m with
  | zero =>
    intro i l1 h a b
    exact B309_p38_0 _ _ _ _ _ _ ⟨by omega, fun _ => q l1 a (fun j x y => b j x (by omega)), fun h => by omega⟩
  | succ m ih =>
    intro i l1 h a b
    have nx : ∀ v : Int64, v = sf_rw o 0 i → iq_P N xs 309 38 [some (iq_r 0), some (iq_i n), some (iq_i k), some (iq_i o), some (iq_i ((i : Int) + 1)), none, none, none, none] [] g (iq_uz l1 39 i v) Q := by
      intro v hv
      refine ih (i + 1) _ (by omega) (sf_up a _ _) (fun j x y => ?_)
      by_cases c : j = i
      · rw [c, ← hv]; simp [iq_uz]
      · rw [← b j x (by omega)]; simp [iq_uz, c]
    refine B309_p38_0 _ _ _ _ _ _ ⟨by omega, fun h => by omega, fun _ => ⟨by omega, fun c => ⟨by omega, nx _ ?_⟩, fun c => ⟨by omega, nx _ ?_⟩⟩⟩
    · rw [sf_rw, if_neg c]
    · rw [sf_rw, if_pos c]
theorem sp309_j {n k o : Int} {x : Int64} {t : Nat} (q : ∀ (l' : iq_J) (d7 : Option iq_V), (∀ j, ¬ j = 39 → l' j = l j) → (∀ j, 0 ≤ j → j ≤ 12 → l' 39 j = sf_rw o (t + 1) j) → iq_P N xs 309 74 [some (iq_r 0), some (iq_i n), some (iq_i k), some (iq_i o), some (iq_l (x * Int64.ofNat 16)), none, some (iq_i ((t : Int) + 1)), d7, none] [] g l' Q) (m : Nat) : ∀ l1 : iq_J, m ≤ 12 → (∀ j, ¬ j = 39 → l1 j = l j) → (∀ j : Int, 0 ≤ j → j ≤ m → l1 39 j = sf_rw o t j) → (∀ j : Int, m < j → j ≤ 12 → l1 39 j = sf_rw o (t + 1) j) → iq_P N xs 309 84 [some (iq_r 0), some (iq_i n), some (iq_i k), some (iq_i o), some (iq_l x), none, some (iq_i t), some (iq_i m), none] [] g l1 Q := by
  induction m with
  | zero =>
    intro l1 h a b c
    refine B309_p84_0 _ _ _ _ _ _ _ _ ⟨by omega, fun _ => q _ _ (sf_up a _ _) (fun j x y => ?_), fun h => by omega⟩
    by_cases e : j = 0
    · rw [e, sf_rw, if_pos rfl, ← b 0 (by omega) (by omega)]; simp [iq_uz]
    · rw [← c j (by omega) y]; simp [iq_uz, e]
  | succ m ih =>
    intro l1 h a b c
    refine B309_p84_0 _ _ _ _ _ _ _ _ ⟨by omega, fun h => by omega, fun _ => ⟨by omega, by omega, by omega, ?_⟩⟩
    rw [show ((m + 1 : Nat) : Int) + -1 = m by omega]
    refine ih _ (by omega) (sf_up a _ _) (fun j x y => ?_) (fun j x y => ?_)
    · have e : ¬ j = ((m + 1 : Nat) : Int) := by omega
      rw [← b j x (by omega)]; simp [iq_uz]
      intro z; omega
    · by_cases e : j = ((m + 1 : Nat) : Int)
      · rw [e, sf_rw, if_neg (by omega), ← b _ (by omega) (Int.le_refl _), ← b (((m + 1 : Nat) : Int) - 1) (by omega) (by omega)]
        simp [iq_uz]
      · rw [← c j (by omega) y]
        have e' : ¬ j = (m : Int) + 1 := by omega
        simp [iq_uz, e']
theorem sp309_t {n : Nat} {k o : Int} (hn : n ≤ 12) (q : ∀ (l' : iq_J), (∀ j, ¬ j = 39 → l' j = l j) → (∀ j, 0 ≤ j → j ≤ 12 → l' 39 j = sf_rw o n j) → iq_P N xs 309 166 [some (iq_r 0), some (iq_i n), some (iq_i k), some (iq_i o), some (iq_l (sf_al n)), none, some (iq_l 0), none, some (iq_i k)] [] g l' Q) (m : Nat) : ∀ (t : Nat) (l1 : iq_J) (d7 : Option iq_V), t + m = n → (∀ j, ¬ j = 39 → l1 j = l j) → (∀ j, 0 ≤ j → j ≤ 12 → l1 39 j = sf_rw o t j) → iq_P N xs 309 74 [some (iq_r 0), some (iq_i n), some (iq_i k), some (iq_i o), some (iq_l (sf_al t)), none, some (iq_i t), d7, none] [] g l1 Q := by
  induction m with
  | zero =>
    intro t l1 d7 h a b
    rw [show t = n by omega] at b ⊢
    exact B309_p74_0 _ _ _ _ _ _ _ _ ⟨by omega, fun _ => q l1 a b, fun h => by omega⟩
  | succ m ih =>
    intro t l1 d7 h a b
    refine B309_p74_0 _ _ _ _ _ _ _ _ ⟨by omega, fun h => by omega, fun _ => ?_⟩
    exact sp309_j (fun l' d7 hl hb => ih (t + 1) l' d7 (by omega) hl hb) 12 l1 (by omega) a (fun j x y => b j x (by omega)) (fun j x y => by omega)
theorem sp309_e {n o : Int} {k t : Nat} {x : Int64} (hr : ∀ j, 0 ≤ j → j ≤ 12 → l 39 j = sf_rw o t j) (hk : k ≤ 12) (q : iq_P N xs 301 0 [some (iq_r 0), some (iq_l (sf_en o t k (13 - k))), none, some (iq_l x), none, none, none] [] g l (fun r g1 l2 => ∃ z3, r = some (iq_i z3) ∧ ((z3 = 0 ∨ z3 = 1) ∧ Q (some (iq_i z3)) g1 l2))) (m : Nat) : ∀ i : Nat, k + i + m = 13 → iq_P N xs 309 166 [some (iq_r 0), some (iq_i n), some (iq_i k), some (iq_i o), some (iq_l x), none, some (iq_l (sf_en o t k i)), none, some (iq_i ((k : Int) + i))] [] g l Q := by
  induction m with
  | zero =>
    intro i h
    rw [show 13 - k = i by omega] at q
    exact B309_p166_0 _ _ _ _ _ _ _ _ ⟨by omega, fun _ => q, fun h => by omega⟩
  | succ m ih =>
    intro i h
    have nx := ih (i + 1) (by omega)
    rw [sf_en, ← hr _ (by omega) (by omega)] at nx
    refine B309_p166_0 _ _ _ _ _ _ _ _ ⟨by omega, fun h => by omega, fun _ => ⟨by omega, ?_⟩⟩
    rw [show (k : Int) + i + 1 = (k : Int) + ((i + 1 : Nat) : Int) by omega]
    exact nx
end MT
theorem cMistuned {N : Nat} {xs : Nat → Int32} {Q : iq_T} {g : iq_I} {l : iq_J} {n k : Int} (hs : iq_SR g l 23 24 25 0) (hn : -2147483648 ≤ n ∧ n ≤ 2147483647) (hk : -2147483648 ≤ k ∧ k ≤ 2147483647) (q1 : (0 ≤ n ∧ n ≤ 12) ∧ 0 ≤ k ∧ k ≤ 12 → ∀ (g' : iq_I) (l' : iq_J), iq_KF g l g' l' → g' 0 0 = 0 → l' 0 1 = (aMistuned (g 24 0) n k).1 → l' 0 2 = (aMistuned (g 24 0) n k).2 → l' 77 2 = l 77 2 → l' 77 3 = l 77 3 → Q (some (iq_i 1)) g' l') (q0 : ¬ ((0 ≤ n ∧ n ≤ 12) ∧ 0 ≤ k ∧ k ≤ 12) → ∀ (g' : iq_I) (l' : iq_J), iq_KK g l g' l' → g' 0 0 = 1 → Q (some (iq_i 0)) g' l') : iq_P N xs 309 0 [some (iq_r 0), some (iq_i n), some (iq_i k), none, none, none, none, none, none] [] g l Q := by
  have hp0 := hs.1.1
  have no : ¬ ((0 ≤ n ∧ n ≤ 12) ∧ 0 ≤ k ∧ k ≤ 12) → iq_P N xs 28 0 [some (iq_r 0), some (iq_i 1)] [] g l (fun r g1 l2 => ∃ z3, r = some (iq_i z3) ∧ ((z3 = 0 ∨ z3 = 1) ∧ Q (some (iq_i z3)) g1 l2)) := fun c => sp28 ⟨_, rfl, .inl rfl, q0 c _ _ ((iq_KK.refl _ _).uz iq_sx00) (by simp [iq_uz])⟩
  refine B309_0 _ _ _ _ ⟨by omega, fun c => no (by omega), fun c1 => ⟨by omega, fun c => no (by omega), fun c2 => ⟨by omega, fun c => no (by omega), fun c3 => ⟨by omega, fun c4 => sp135_23 (by omega) ⟨_, rfl, ?_⟩, fun c => no (by omega)⟩⟩⟩⟩
  have q1 := q1 ⟨⟨c1, c2⟩, c3, c4⟩
  obtain ⟨n', rfl⟩ : ∃ z : Nat, n = z := ⟨n.toNat, by omega⟩
  obtain ⟨k', rfl⟩ : ∃ z : Nat, k = z := ⟨k.toNat, by omega⟩
  refine sp309_c (l := l) (fun l1 hl hb => sp309_t (l := l) (o := g 24 0) (by omega) (fun l2 hl2 hb2 => ?_) n' 0 l1 none (by omega) hl hb) 13 0 l (by omega) (fun _ _ => rfl) (fun j x y => by omega)
  have := sp309_e (N := N) (xs := xs) (Q := Q) (g := g) (n := n') (x := sf_al n') hb2 (show k' ≤ 12 by omega) (sp301 (sf_mtfb (by omega) (by omega) (by omega)) ⟨_, rfl, .inr rfl, q1 _ _ ((iq_KK39 (g := g) hl2).tellc 0 _ _) (by simp [iq_uz]) (by simp [iq_uz]; rfl) (by simp [iq_uz]; rfl) (by simp [iq_uz]; rw [hl2 77 (by decide)]) (by simp [iq_uz]; rw [hl2 77 (by decide)])⟩) (13 - k') 0 (by omega)
  rw [sf_en, show (k' : Int) + ((0 : Nat) : Int) = k' by omega] at this
  exact this
