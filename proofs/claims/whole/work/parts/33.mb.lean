/-! The model's small methods, and how it lays out a scale. -/
theorem sp98 {N : Nat} {xs : Nat → Int32} {Q : iq_T} {g : iq_I} {l : iq_J} {a0 : Int} (q : Q (some (iq_i (-1))) (iq_uz g 77 1 a0) l) : iq_P N xs 98 0 [some (iq_r 77), some (iq_i a0)] [] g l Q := B98_77 _ _ _ q
theorem sp115 {N : Nat} {xs : Nat → Int32} {Q : iq_T} {g : iq_I} {l : iq_J} {a0 : Int} (q : Q (some (iq_i a0)) (iq_uz g 77 1 0) l) : iq_P N xs 115 0 [some (iq_r 77), some (iq_i a0)] [] g l Q := B115_77 _ _ _ q
theorem sp33 {N : Nat} {xs : Nat → Int32} {Q : iq_T} {g : iq_I} {l : iq_J} {a0 : Int} (h : -2147483648 ≤ a0 ∧ a0 ≤ 2147483647) (q1 : a0 = 0 → Q (some (iq_i 1)) (iq_uz g 77 1 a0) l) (q0 : ¬ a0 = 0 → Q (some (iq_i 0)) (iq_uz g 77 1 a0) l) : iq_P N xs 33 0 [some (iq_r 77), some (iq_i a0)] [] g l Q := B33_77 _ _ _ ⟨h, q0, q1⟩
theorem sp159 {N : Nat} {xs : Nat → Int32} {Q : iq_T} {g : iq_I} {l : iq_J} {a0 : Int} (h : -2147483648 ≤ a0 ∧ a0 ≤ 2147483647) (q1 : a0 = -1 → Q (some (iq_i (-1))) (iq_uz g 77 1 6) l) (q0 : ¬ a0 = -1 → Q (some (iq_i a0)) (iq_uz g 77 1 0) l) : iq_P N xs 159 0 [some (iq_r 77), some (iq_i a0)] [] g l Q :=
  B159_77 _ _ _ ⟨h, fun c => sp115 ⟨_, rfl, q0 c⟩, fun c => sp98 ⟨_, rfl, q1 c⟩⟩
theorem sp111 {N : Nat} {xs : Nat → Int32} {Q : iq_T} {g : iq_I} {l : iq_J} {a0 a1 : Int} (h1 : -2147483648 < a0 ∧ a0 ≤ 2147483647) (h2 : 0 < a1 ∧ a1 ≤ 2147483647) (q : Q (some (iq_i (a0 % a1))) g l) : iq_P N xs 111 0 [some (iq_i a0), some (iq_i a1), none] [] g l Q := by
  obtain ⟨t1, t2, t3, t4, t5⟩ := iq_tmd (x := a0) h2.1
  have e := Int.emod_nonneg a0 (show a1 ≠ 0 by omega)
  have e2 := Int.emod_lt_of_pos a0 h2.1
  refine B111 _ _ _ _ ⟨by omega, by omega, fun h => ?_, fun h => ?_⟩
  · by_cases c : 0 ≤ a0
    · rw [t1 c]; exact q
    · by_cases c2 : a0.tmod a1 = 0
      · rw [c2, ← t2 (by omega) c2]; exact q
      · have := t3 (by omega) c2
        omega
  · by_cases c : 0 ≤ a0
    · have := t1 c
      omega
    · rw [t3 (by omega) (by omega)]; exact q
theorem sp158 {N : Nat} {xs : Nat → Int32} {Q : iq_T} {g : iq_I} {l : iq_J} {a0 : Int} (h1 : -2147483648 ≤ a0 ∧ a0 ≤ 2147483647) (h2 : -2147483648 ≤ g 78 1 ∧ g 78 1 ≤ 2147483647) (q1 : 0 ≤ a0 → a0 < g 78 1 → Q (some (iq_i 1)) g l) (q0 : ¬ (0 ≤ a0 ∧ a0 < g 78 1) → Q (some (iq_i 0)) g l) : iq_P N xs 158 0 [some (iq_r 77), some (iq_i a0)] [] g l Q :=
  B158_77 _ _ _ ⟨by omega, fun h => q0 (by omega), fun h => ⟨by omega, fun h3 => q0 (by omega), fun h3 => q1 h h3⟩⟩
theorem sp143 {N : Nat} {xs : Nat → Int32} {Q : iq_T} {g : iq_I} {l : iq_J} {a0 : Int} (h1 : 0 ≤ a0 ∧ a0 < 60) (q : Q (some (iq_i (g 78 (20 + a0)))) g l) : iq_P N xs 143 0 [some (iq_r 77), some (iq_i a0)] [] g l Q :=
  B143_77 _ _ _ ⟨by omega, q⟩
theorem sp112 {N : Nat} {xs : Nat → Int32} {Q : iq_T} {g : iq_I} {l : iq_J} {k gen : Int} (hp : iq_pb (g 78)) (hk : -100 ≤ k ∧ k ≤ 100) (hg : 0 ≤ gen ∧ gen < 60) (q : Q (some (iq_i (iq_ch (g 78 1) (g 78 4) gen (g 78 5) k))) g l) : iq_P N xs 112 0 [some (iq_r 77), some (iq_i k), some (iq_i gen)] [] g l Q := by
  obtain ⟨p0, p1, p2, p3, p4, p5, p6, p7, p8⟩ := hp
  have hm : -7380 ≤ (k - g 78 4) * gen ∧ (k - g 78 4) * gen ≤ 14760 := by
    have := iq_mulR (a := k - g 78 4 + 123) (b := gen) (x := 246) (y := 60) (by omega) (by omega) (by omega) (by omega)
    rw [Int.add_mul] at this
    omega
  exact B112_77 _ _ _ _ (sp111 (by omega) (by omega) ⟨_, rfl, q⟩)
/-- the first k of c -/
def iq_dg (c : Int → Int) : Nat → Int → Bool
  | 0, _ => false
  | k + 1, t => iq_dg c k t || decide (c k = t)
theorem iq_dgi {c : Int → Int} {k : Nat} {t : Int} : iq_dg c k t = true ↔ ∃ j : Int, 0 ≤ j ∧ j < k ∧ c j = t := by
  induction k with
  | zero =>
    rw [iq_dg]
    constructor
    · intro h; cases h
    · rintro ⟨j, a, b, -⟩; omega
  | succ k ih =>
    rw [iq_dg, Bool.or_eq_true, ih, decide_eq_true_eq]
    constructor
    · rintro (⟨j, a, b, e⟩ | e)
      · exact ⟨j, a, by omega, e⟩
      · exact ⟨k, by omega, by omega, e⟩
    · rintro ⟨j, a, b, e⟩
      by_cases h : j = k
      · right; rw [← h]; exact e
      · left; exact ⟨j, a, by omega, e⟩
theorem iq_cn_or {f : Int → Bool} {a : Int} {n : Nat} : iq_cn (fun t => f t || decide (a = t)) n ≤ iq_cn f n + (if 0 ≤ a ∧ a < n then 1 else 0) := by
  induction n with
  | zero => rw [iq_cn, iq_cn]; split <;> omega
  | succ n ih =>
    rw [iq_cn, iq_cn]
    by_cases c : a = n
    · subst c
      rw [if_neg (by omega)] at ih
      rw [if_pos (show (0 : Int) ≤ n ∧ (n : Int) < ((n + 1 : Nat) : Int) by omega)]
      split <;> split <;> omega
    · have e : (f n || decide (a = (n : Int))) = f n := by simp [c]
      rw [e]
      by_cases d : 0 ≤ a ∧ a < n
      · rw [if_pos d] at ih
        rw [if_pos (show 0 ≤ a ∧ a < ((n + 1 : Nat) : Int) by omega)]
        omega
      · rw [if_neg d] at ih
        rw [if_neg (show ¬ (0 ≤ a ∧ a < ((n + 1 : Nat) : Int)) by omega)]
        omega
theorem iq_cn_dg (c : Int → Int) (k n : Nat) : iq_cn (iq_dg c k) n ≤ k := by
  induction k with
  | zero =>
    have : iq_cn (iq_dg c 0) n = 0 := by
      rw [iq_cn_ext (f := iq_dg c 0) (a := 0) (b := n) (by omega) (fun i _ _ => rfl)]
      rfl
    omega
  | succ k ih =>
    have h := iq_cn_or (f := iq_dg c k) (a := c k) (n := n)
    have e : iq_cn (iq_dg c (k + 1)) n = iq_cn (fun t => iq_dg c k t || decide (c k = t)) n := iq_cn_congr (fun i _ _ => rfl)
    rw [e]
    split at h <;> omega
theorem iq_cn_pos {f : Int → Bool} {n : Nat} {t : Nat} (h1 : t < n) (h2 : f t = true) : 0 < iq_cn f n := by
  have := iq_cn_lt h1 h2
  have := iq_cn_nonneg f t
  omega
/-- what the model lays out: f the tones, c the steps -/
def iq_st (g : iq_I) (p : Int) : Int → Bool := iq_dg (fun d => iq_sp (g 85) (g 77 26) p d 1) (g 77 26).toNat
def iq_LY (g : iq_I) (p : Int) (f : Int → Bool) : Prop := g 77 26 = iq_cn f p.toNat ∧ (∀ t : Nat, (t : Int) < p → f t = true → g 85 (iq_cn f t) = t) ∧ (∀ t : Nat, t < 60 → g 87 t = if f t = true then iq_cn f t else -1) ∧ (∀ d, 0 ≤ d → d < g 77 26 → g 86 d = iq_sp (g 85) (g 77 26) p d 1) ∧ g 77 27 = iq_cn (iq_st g p) (p.toNat + 1) ∧ (∀ v : Nat, (v : Int) ≤ p → iq_st g p v = true → g 88 (iq_cn (iq_st g p) v) = v)
section LY
variable {N : Nat} {xs : Nat → Int32} {Q : iq_T} {l : iq_J} {len gen p : Int}
theorem ly1 {g0 : iq_I} (q : ∀ g' : iq_I, (∀ j, ¬ j = 87 → g' j = g0 j) → (∀ t, 0 ≤ t → t < 60 → g' 87 t = -1) → iq_P N xs 113 44 [some (iq_r 77), some (iq_i len), some (iq_i gen), some (iq_i p), some (iq_i 0), none, none] [] g' l Q) (n : Nat) : ∀ (k : Int) (g : iq_I), 0 ≤ k → k + n = 60 → (∀ j, ¬ j = 87 → g j = g0 j) → (∀ t, 0 ≤ t → t < k → g 87 t = -1) → iq_P N xs 113 20 [some (iq_r 77), some (iq_i len), some (iq_i gen), some (iq_i p), some (iq_i k), none, none] [] g l Q := by
  induction n with
  | zero =>
    intro k g h1 h2 h3 h4
    exact B113_p20_77 _ _ _ _ _ _ ⟨by omega, fun h => q g h3 (fun t a b => h4 t a (by omega)), fun h => by omega⟩
  | succ n ih =>
    intro k g h1 h2 h3 h4
    refine B113_p20_77 _ _ _ _ _ _ ⟨by omega, fun h => by omega, fun h => ⟨by omega, ih (k + 1) _ (by omega) (by omega) (fun j a => ?_) (fun t a b => ?_)⟩⟩
    · rw [← h3 j a]; funext i; simp [iq_uz, a]
    · by_cases c : t = k
      · simp [iq_uz, c]
      · have := h4 t a (by omega)
        simp [iq_uz, c, this]
theorem ly2 {g0 : iq_I} (hp : iq_pb (g0 78)) (hg : 0 ≤ gen ∧ gen < 60) (hl : 0 ≤ len ∧ len ≤ 24) (q : ∀ g' : iq_I, (∀ j, ¬ j = 87 → g' j = g0 j) → (∀ t, 0 ≤ t → t < 60 → g' 87 t = if iq_dg (iq_ch (g0 78 1) (g0 78 4) gen (g0 78 5)) len.toNat t = true then 0 else -1) → iq_P N xs 113 72 [some (iq_r 77), some (iq_i len), some (iq_i gen), some (iq_i p), some (iq_i 0), none, none] [] g' l Q) (n : Nat) : ∀ (k : Nat) (g : iq_I), (k : Int) + n = len → (∀ j, ¬ j = 87 → g j = g0 j) → (∀ t, 0 ≤ t → t < 60 → g 87 t = if iq_dg (iq_ch (g0 78 1) (g0 78 4) gen (g0 78 5)) k t = true then 0 else -1) → iq_P N xs 113 44 [some (iq_r 77), some (iq_i len), some (iq_i gen), some (iq_i p), some (iq_i k), none, none] [] g l Q := by
  induction n with
  | zero =>
    intro k g h2 h3 h4
    rw [show len.toNat = k by omega] at q
    exact B113_p44_77 _ _ _ _ _ _ ⟨by omega, fun h => q g h3 h4, fun h => by omega⟩
  | succ n ih =>
    intro k g h2 h3 h4
    have h78 := h3 78 (by decide)
    have hr := iq_chR (p := g0 78 1) (down := g0 78 4) (gen := gen) (root := g0 78 5) (k := k) (by have := hp.2.1; omega)
    refine B113_p44_77 _ _ _ _ _ _ ⟨by omega, fun h => by omega, fun h => sp112 (by rw [h78]; exact hp) (by omega) hg ⟨_, rfl, ?_⟩⟩
    rw [h78]
    have hp1 := hp.2.1
    refine ⟨by omega, ih (k + 1) _ (by omega) (fun j a => ?_) (fun t a b => ?_)⟩
    · rw [← h3 j a]; funext i; simp [iq_uz, a]
    · rw [iq_dg]
      by_cases c : t = iq_ch (g0 78 1) (g0 78 4) gen (g0 78 5) k
      · simp [iq_uz, c]
      · have c2 : ¬ iq_ch (g0 78 1) (g0 78 4) gen (g0 78 5) k = t := fun e => c e.symm
        have := h4 t a b
        simp [iq_uz, c, c2, this]
theorem ly3 {g0 : iq_I} {f : Int → Bool} (hpp : 2 ≤ p ∧ p ≤ 60) (hf : ∀ n : Nat, iq_cn f n ≤ 24) (q : ∀ g' : iq_I, (∀ j, ¬ j = 87 → ¬ j = 85 → ¬ j = 77 → g' j = g0 j) → (∀ k, ¬ k = 26 → g' 77 k = g0 77 k) → g' 77 26 = iq_cn f p.toNat → (∀ t : Nat, (t : Int) < p → f t = true → g' 85 (iq_cn f t) = t) → (∀ t : Nat, (t : Int) < p → g' 87 t = if f t = true then iq_cn f t else -1) → (∀ t, p ≤ t → t < 60 → g' 87 t = if f t = true then 0 else -1) → iq_P N xs 113 133 [some (iq_r 77), some (iq_i len), some (iq_i gen), some (iq_i p), some (iq_i 0), none, none] [] g' l Q) (n : Nat) : ∀ (k : Nat) (g : iq_I), (k : Int) + n = p → (∀ j, ¬ j = 87 → ¬ j = 85 → ¬ j = 77 → g j = g0 j) → (∀ k, ¬ k = 26 → g 77 k = g0 77 k) → g 77 26 = iq_cn f k → (∀ t : Nat, t < k → f t = true → g 85 (iq_cn f t) = t) → (∀ t : Nat, t < k → g 87 t = if f t = true then iq_cn f t else -1) → (∀ t, (k : Int) ≤ t → t < 60 → g 87 t = if f t = true then 0 else -1) → iq_P N xs 113 72 [some (iq_r 77), some (iq_i len), some (iq_i gen), some (iq_i p), some (iq_i k), none, none] [] g l Q := by
  induction n with
  | zero =>
    intro k g h2 h3 h3' h4 h5 h6 h7
    refine B113_p72_77 _ _ _ _ _ _ ⟨by omega, fun h => q g h3 h3' ?_ (fun t a => h5 t (by omega)) (fun t a => h6 t (by omega)) (fun t a b => h7 t (by omega) b), fun h => by omega⟩
    rw [h4]; congr 1; omega
  | succ n ih =>
    intro k g h2 h3 h3' h4 h5 h6 h7
    have hk := h7 k (by omega) (by omega)
    have hcn := iq_cn_nonneg f k
    refine B113_p72_77 _ _ _ _ _ _ ⟨by omega, fun h => by omega, fun h => ⟨by omega, ?_, fun c => ⟨by omega, ?_, ?_⟩, fun c => ?_⟩⟩
    · rw [hk]; split <;> omega
    · have hfk : f k = true := by
        rcases hb : f k with _ | _
        · rw [hb] at hk; simp at hk; omega
        · rfl
      have h8 := hf (k + 1)
      rw [iq_cn, if_pos hfk] at h8
      omega
    · have hfk : f k = true := by
        rcases hb : f k with _ | _
        · rw [hb] at hk; simp at hk; omega
        · rfl
      refine ih (k + 1) _ (by omega) (fun j a b c => ?_) (fun i a => ?_) ?_ (fun t a b => ?_) (fun t a => ?_) (fun t a b => ?_)
      · rw [← h3 j a b c]; funext i; simp [iq_uz, a, b, c]
      · rw [← h3' i a]; simp [iq_uz, a]
      · rw [iq_cn, if_pos hfk]; simp [iq_uz, h4]
      · by_cases e : t = k
        · subst e; simp [iq_uz, h4]
        · have := h5 t (by omega) b
          have hl := iq_cn_lt (show t < k by omega) b
          rw [← this]
          simp [iq_uz]
          intro e; omega
      · by_cases e : t = k
        · subst e
          rw [if_pos hfk]
          simp [iq_uz, h4]
        · have := h6 t (by omega)
          have e2 : ¬ (t : Int) = k := by omega
          rw [← this]
          simp [iq_uz]
          intro e3; omega
      · have e2 : ¬ t = (k : Int) := by omega
        rw [← h7 t (by omega) b]
        simp [iq_uz, e2]
    · have hfk : f k = false := by
        rcases hb : f k with _ | _
        · rfl
        · rw [hb] at hk; simp at hk; omega
      refine ih (k + 1) g (by omega) h3 h3' ?_ (fun t a b => ?_) (fun t a => ?_) (fun t a b => h7 t (by omega) b)
      · rw [iq_cn, hfk, h4]; simp
      · by_cases e : t = k
        · subst e; rw [hfk] at b; cases b
        · exact h5 t (by omega) b
      · by_cases e : t = k
        · subst e; rw [hfk]; simpa using c
        · exact h6 t (by omega)
theorem iq_stm {T : Int → Int} {m p d : Int} (h : iq_rg T m p) (hp : 0 < p) (h1 : 0 ≤ d) (h2 : d < m) : iq_sp T m p d 1 = if (T ((d + 1) % m) - T d) % p = 0 then p else (T ((d + 1) % m) - T d) % p := by
  have hm : 0 < m := by have := h.1; omega
  have e1 := Int.emod_nonneg (d + 1) (show m ≠ 0 by omega)
  have e2 := Int.emod_lt_of_pos (d + 1) hm
  have a1 := h.2.1 d h1 h2
  have a2 := h.2.1 _ e1 e2
  have hs := iq_sp1 h h1 h2
  unfold iq_sp at hs ⊢
  unfold iq_bt at hs ⊢
  by_cases c : m = 1
  · subst c
    have : (d + 1) % 1 = d := by omega
    rw [this]
    have e : (1 : Int) / 1 * p = p := by simp
    rw [e]
    simp
  · rw [Int.ediv_eq_zero_of_lt (by omega) (by omega)] at hs ⊢
    by_cases k : T ((d + 1) % m) - T d < 0
    · rw [if_pos k] at hs ⊢
      have e3 : (T ((d + 1) % m) - T d) % p = T ((d + 1) % m) - T d + p := by
        have h3 : (T ((d + 1) % m) - T d + p) % p = T ((d + 1) % m) - T d + p := Int.emod_eq_of_lt (by omega) (by omega)
        have h4 := Int.add_mul_emod_self_left (T ((d + 1) % m) - T d + p) p (-1)
        rw [show T ((d + 1) % m) - T d + p + p * (-1) = T ((d + 1) % m) - T d by omega] at h4
        rw [h4, h3]
      rw [e3, if_neg (by omega)]
      omega
    · rw [if_neg k] at hs ⊢
      have e3 : (T ((d + 1) % m) - T d) % p = T ((d + 1) % m) - T d := Int.emod_eq_of_lt (by omega) (by omega)
      rw [e3, if_neg (by omega)]
      omega
theorem ly4 {g0 : iq_I} (hpp : 2 ≤ p ∧ p ≤ 60) (hr : iq_rg (g0 85) (g0 77 26) p) (hm : g0 77 26 ≤ 24) (q : ∀ (g' : iq_I) (d5 : Option iq_V), (∀ j, ¬ j = 86 → g' j = g0 j) → (∀ d, 0 ≤ d → d < g0 77 26 → g' 86 d = iq_sp (g0 85) (g0 77 26) p d 1) → iq_P N xs 113 197 [some (iq_r 77), some (iq_i len), some (iq_i gen), some (iq_i p), some (iq_i 1), d5, none] [] g' l Q) (n : Nat) : ∀ (k : Int) (d5 : Option iq_V) (g : iq_I), 0 ≤ k → k + n = g0 77 26 → (∀ j, ¬ j = 86 → g j = g0 j) → (∀ d, 0 ≤ d → d < k → g 86 d = iq_sp (g0 85) (g0 77 26) p d 1) → iq_P N xs 113 133 [some (iq_r 77), some (iq_i len), some (iq_i gen), some (iq_i p), some (iq_i k), d5, none] [] g l Q := by
  induction n with
  | zero =>
    intro k d5 g h1 h2 h3 h4
    have e77 := h3 77 (by decide)
    refine B113_p133_77 _ _ _ _ _ _ _ ⟨by rw [e77]; omega, fun h => q g _ h3 (fun d a b => h4 d a (by omega)), fun h => ?_⟩
    rw [e77] at h; omega
  | succ n ih =>
    intro k d5 g h1 h2 h3 h4
    have e77 := h3 77 (by decide)
    have e85 := h3 85 (by decide)
    have m1 := Int.emod_nonneg (k + 1) (show g0 77 26 ≠ 0 by omega)
    have m2 := Int.emod_lt_of_pos (k + 1) (show 0 < g0 77 26 by omega)
    have a1 := hr.2.1 k h1 (by omega)
    have a2 := hr.2.1 _ m1 m2
    have hs := iq_stm hr (by omega) h1 (show k < g0 77 26 by omega)
    refine B113_p133_77 _ _ _ _ _ _ _ ⟨by rw [e77]; omega, fun h => by rw [e77] at h; omega, fun h => ?_⟩
    rw [e77, Int.tmod_eq_emod_of_nonneg (by omega), e85]
    refine ⟨by omega, by omega, by omega, sp111 (by omega) (by omega) ⟨_, rfl, ?_⟩⟩
    have b1 := Int.emod_nonneg (g0 85 ((k + 1) % g0 77 26) - g0 85 k) (show p ≠ 0 by omega)
    have b2 := Int.emod_lt_of_pos (g0 85 ((k + 1) % g0 77 26) - g0 85 k) (show 0 < p by omega)
    refine ⟨by omega, fun c => ⟨by omega, ih (k + 1) _ _ (by omega) (by omega) (fun j a => ?_) (fun d a b => ?_)⟩, fun c => ⟨by omega, ih (k + 1) _ _ (by omega) (by omega) (fun j a => ?_) (fun d a b => ?_)⟩⟩
    · rw [← h3 j a]; funext i; simp [iq_uz, a]
    · by_cases e : d = k
      · subst e
        rw [hs, if_neg c]; simp [iq_uz]
      · rw [← h4 d a (by omega)]; simp [iq_uz, e]
    · rw [← h3 j a]; funext i; simp [iq_uz, a]
    · by_cases e : d = k
      · subst e
        rw [hs, if_pos c]; simp [iq_uz]
      · rw [← h4 d a (by omega)]; simp [iq_uz, e]
/-- is there a step of a size -/
theorem ly5i {m v : Int} {g : iq_I} {c : Int → Int} (hm : g 77 26 = m) (hm24 : m ≤ 24) (hc : ∀ d, 0 ≤ d → d < m → g 86 d = c d) (hcR : ∀ d, 0 ≤ d → d < m → -1000 ≤ c d ∧ c d ≤ 1000) (hv : 0 ≤ v ∧ v ≤ 60) (hs : iq_dg c m.toNat v = true → 0 ≤ g 77 27 ∧ g 77 27 < 24) (q1 : iq_dg c m.toNat v = true → ∀ w6, iq_P N xs 113 197 [some (iq_r 77), some (iq_i len), some (iq_i gen), some (iq_i p), some (iq_i (v + 1)), some (iq_i 1), some (iq_i w6)] [] (iq_uz (iq_uz g 88 (g 77 27) v) 77 27 (g 77 27 + 1)) l Q) (q0 : iq_dg c m.toNat v = false → ∀ w6, iq_P N xs 113 197 [some (iq_r 77), some (iq_i len), some (iq_i gen), some (iq_i p), some (iq_i (v + 1)), some (iq_i 0), some (iq_i w6)] [] g l Q) (n : Nat) : ∀ (k : Nat), (k : Int) + n = m → iq_P N xs 113 209 [some (iq_r 77), some (iq_i len), some (iq_i gen), some (iq_i p), some (iq_i v), some (iq_i (if iq_dg c k v = true then 1 else 0)), some (iq_i k)] [] g l Q := by
  induction n with
  | zero =>
    intro k h2
    rw [show m.toNat = k by omega] at q1 q0 hs
    rcases hb : iq_dg c k v with _ | _
    · refine B113_p209_77 _ _ _ _ _ _ _ _ ⟨by omega, fun h => ⟨by decide, fun e => (e rfl).elim, fun _ => q0 hb _⟩, fun h => by omega⟩
    · refine B113_p209_77 _ _ _ _ _ _ _ _ ⟨by omega, fun h => ⟨by decide, fun e => ⟨hs hb, q1 hb _⟩, fun e => by simp at e⟩, fun h => by omega⟩
  | succ n ih =>
    intro k h2
    have hck := hc k (by omega) (by omega)
    have hcr := hcR k (by omega) (by omega)
    have := ih (k + 1) (by omega)
    rw [iq_dg] at this
    rcases hb : iq_dg c k v with _ | _
    · refine B113_p209_77 _ _ _ _ _ _ _ _ ⟨by omega, fun h => by omega, fun h => ⟨by decide, fun e => (e rfl).elim, fun _ => ⟨by omega, by omega, fun e => ?_, fun e => ?_⟩⟩⟩
      · have e2 : ¬ c k = v := by rw [← hck]; exact e
        simp [hb, e2] at this
        exact this
      · have e2 : c k = v := by rw [← hck]; exact e
        simp [hb, e2] at this
        exact this
    · refine B113_p209_77 _ _ _ _ _ _ _ _ ⟨by omega, fun h => by omega, fun h => ⟨by decide, fun e => ?_, fun e => by simp at e⟩⟩
      simp [hb] at this
      exact this
theorem ly5 {g0 : iq_I} {m : Int} {c : Int → Int} (hpp : 2 ≤ p ∧ p ≤ 60) (hm : g0 77 26 = m) (hm24 : 0 ≤ m ∧ m ≤ 24) (hc : ∀ d, 0 ≤ d → d < m → g0 86 d = c d) (hcR : ∀ d, 0 ≤ d → d < m → 0 < c d ∧ c d ≤ 1000) (q : ∀ g' : iq_I, (∀ j, ¬ j = 88 → ¬ j = 77 → g' j = g0 j) → (∀ k, ¬ k = 27 → g' 77 k = g0 77 k) → g' 77 27 = iq_cn (iq_dg c m.toNat) (p.toNat + 1) → (∀ v : Nat, (v : Int) ≤ p → iq_dg c m.toNat v = true → g' 88 (iq_cn (iq_dg c m.toNat) v) = v) → Q none g' l) (n : Nat) : ∀ (v : Nat) (d5 d6 : Option iq_V) (g : iq_I), (v : Int) + n = p + 1 → (∀ j, ¬ j = 88 → ¬ j = 77 → g j = g0 j) → (∀ k, ¬ k = 27 → g 77 k = g0 77 k) → g 77 27 = iq_cn (iq_dg c m.toNat) v → (∀ u : Nat, u < v → iq_dg c m.toNat u = true → g 88 (iq_cn (iq_dg c m.toNat) u) = u) → iq_P N xs 113 197 [some (iq_r 77), some (iq_i len), some (iq_i gen), some (iq_i p), some (iq_i v), d5, d6] [] g l Q := by
  induction n with
  | zero =>
    intro v d5 d6 g h2 h3 h3' h4 h5
    refine B113_p197_77 _ _ _ _ _ _ _ _ ⟨by omega, fun h => q g h3 h3' ?_ (fun u a b => h5 u (by omega) b), fun h => by omega⟩
    rw [h4]; congr 1; omega
  | succ n ih =>
    intro v d5 d6 g h2 h3 h3' h4 h5
    have hcn := iq_cn_nonneg (iq_dg c m.toNat) v
    have h77 := h3' 26 (by decide)
    refine B113_p197_77 _ _ _ _ _ _ _ _ ⟨by omega, fun h => by omega, fun h => ?_⟩
    refine ly5i (m := m) (c := c) (by rw [h77, hm]) hm24.2 (fun d a b => ?_) (fun d a b => ?_) (by omega) (fun hb => ?_) (fun hb w6 => ?_) (fun hb w6 => ?_) m.toNat 0 (by omega)
    · rw [h3 86 (by decide) (by decide)]; exact hc d a b
    · have := hcR d a b; omega
    · have h8 := iq_cn_dg c m.toNat (v + 1)
      rw [iq_cn, if_pos hb] at h8
      omega
    · refine ih (v + 1) _ _ _ (by omega) (fun j a b => ?_) (fun k a => ?_) ?_ (fun u a b => ?_)
      · rw [← h3 j a b]; funext i; simp [iq_uz, a, b]
      · rw [← h3' k a]; simp [iq_uz, a]
      · rw [iq_cn, if_pos hb]; simp [iq_uz, h4]
      · by_cases e : u = v
        · subst e; simp [iq_uz, h4]
        · have := h5 u (by omega) b
          have hl := iq_cn_lt (show u < v by omega) b
          rw [← this]
          simp [iq_uz]
          intro e3; omega
    · refine ih (v + 1) _ _ g (by omega) h3 h3' ?_ (fun u a b => ?_)
      · rw [iq_cn, hb, h4]; simp
      · by_cases e : u = v
        · subst e; rw [hb] at b; cases b
        · exact h5 u (by omega) b
end LY
theorem sp113 {N : Nat} {xs : Nat → Int32} {Q : iq_T} {g : iq_I} {l : iq_J} {len gen : Int} (hp : iq_pb (g 78)) (hg : 0 ≤ gen ∧ gen < 60) (hl : 1 ≤ len ∧ len ≤ 24) (q : ∀ g' : iq_I, (∀ j, ¬ j = 77 → (j < 85 ∨ 88 < j) → g' j = g j) → (∀ k, ¬ k = 26 → ¬ k = 27 → g' 77 k = g 77 k) → iq_LY g' (g 78 1) (iq_dg (iq_ch (g 78 1) (g 78 4) gen (g 78 5)) len.toNat) → iq_rg (g' 85) (g' 77 26) (g 78 1) → g' 77 26 ≤ len → Q none g' l) : iq_P N xs 113 0 [some (iq_r 77), some (iq_i len), some (iq_i gen), none, none, none, none] [] g l Q := by
  have hp1 := hp.2.1
  have hfR : ∀ t, iq_dg (iq_ch (g 78 1) (g 78 4) gen (g 78 5)) len.toNat t = true → 0 ≤ t ∧ t < g 78 1 := by
    intro t ht
    obtain ⟨j, -, -, e⟩ := iq_dgi.mp ht
    rw [← e]
    exact iq_chR (by omega)
  refine B113_77 _ _ _ _ (ly1 (g0 := iq_uz (iq_uz g 77 26 0) 77 27 0) (fun g1 a1 b1 => ?_) 60 0 _ (by omega) (by omega) (fun _ _ => rfl) (fun t a b => by omega))
  have e78 : g1 78 = g 78 := by rw [a1 78 (by decide)]; funext i; simp [iq_uz]
  refine ly2 (g0 := g1) (by rw [e78]; exact hp) hg (by omega) (fun g2 a2 b2 => ?_) len.toNat 0 g1 (by omega) (fun _ _ => rfl) (fun t a b => by rw [b1 t a b]; simp [iq_dg])
  rw [e78] at b2
  refine ly3 (g0 := g2) (f := iq_dg (iq_ch (g 78 1) (g 78 4) gen (g 78 5)) len.toNat) hp1 (fun n => by have := iq_cn_dg (iq_ch (g 78 1) (g 78 4) gen (g 78 5)) len.toNat n; omega) (fun g3 a3 a3' b3 c3 d3 e3 => ?_) (g 78 1).toNat 0 g2 (by omega) (fun _ _ _ _ => rfl) (fun _ _ => rfl) ?_ (fun t a => by omega) (fun t a => by omega) (fun t a b => b2 t (by omega) b)
  · have hcnle := iq_cn_dg (iq_ch (g 78 1) (g 78 4) gen (g 78 5)) len.toNat (g 78 1).toNat
    have hpos : 0 < iq_cn (iq_dg (iq_ch (g 78 1) (g 78 4) gen (g 78 5)) len.toNat) (g 78 1).toNat := by
      have hr := iq_chR (p := g 78 1) (down := g 78 4) (gen := gen) (root := g 78 5) (k := 0) (by omega)
      refine iq_cn_pos (t := (iq_ch (g 78 1) (g 78 4) gen (g 78 5) 0).toNat) (by omega) (iq_dgi.mpr ⟨0, by omega, by omega, by omega⟩)
    have hrg : iq_rg (g3 85) (g3 77 26) (g 78 1) := by
      rw [b3]
      have := iq_ring_of (f := iq_dg (iq_ch (g 78 1) (g 78 4) gen (g 78 5)) len.toNat) (p := (g 78 1).toNat) (T := g3 85) hpos (fun t a b => c3 t (by omega) b)
      rw [Int.toNat_of_nonneg (by omega)] at this
      exact this
    refine ly4 (g0 := g3) hp1 hrg (by omega) (fun g4 d5 a4 b4 => ?_) (g3 77 26).toNat 0 none g3 (by omega) (by omega) (fun _ _ => rfl) (fun d a b => by omega)
    have e77 := a4 77 (by decide)
    have e85 := a4 85 (by decide)
    refine ly5 (g0 := g4) (m := g3 77 26) (c := fun d => iq_sp (g3 85) (g3 77 26) (g 78 1) d 1) hp1 (by rw [e77]) (by omega) b4 (fun d a b => by have := iq_sp1 hrg a b; omega) (fun g5 a5 a5' b5 c5 => ?_) (g 78 1).toNat 1 d5 none g4 (by omega) (fun _ _ _ => rfl) (fun _ _ => rfl) ?_ (fun u a b => ?_)
    · have f26 : g5 77 26 = g3 77 26 := by rw [a5' 26 (by decide), e77]
      have f85 : g5 85 = g3 85 := by rw [a5 85 (by decide) (by decide), e85]
      have f86 : g5 86 = g4 86 := a5 86 (by decide) (by decide)
      have f87 : g5 87 = g3 87 := by rw [a5 87 (by decide) (by decide), a4 87 (by decide)]
      have hst : iq_st g5 (g 78 1) = iq_dg (fun d => iq_sp (g3 85) (g3 77 26) (g 78 1) d 1) (g3 77 26).toNat := by
        unfold iq_st
        rw [f26, f85]
      refine q g5 (fun j a b => ?_) (fun k a b => ?_) ⟨?_, ?_, ?_, ?_, ?_, ?_⟩ ?_ ?_
      · rw [a5 j (by omega) a, a4 j (by omega), a3 j (by omega) (by omega) a, a2 j (by omega), a1 j (by omega)]
        funext i; simp [iq_uz, a]
      · rw [a5' k b, e77, a3' k a, a2 77 (by decide), a1 77 (by decide)]
        simp [iq_uz, a, b]
      · rw [f26, b3]
      · rw [f85]; exact c3
      · intro t ht
        rw [f87]
        by_cases c : (t : Int) < g 78 1
        · exact d3 t c
        · have hft : iq_dg (iq_ch (g 78 1) (g 78 4) gen (g 78 5)) len.toNat t = false := by
            rcases hb : iq_dg (iq_ch (g 78 1) (g 78 4) gen (g 78 5)) len.toNat t with _ | _
            · rfl
            · have := hfR t hb; omega
          have := e3 t (by omega) (by omega)
          rw [hft] at this ⊢
          simpa using this
      · intro d a b
        rw [f86, f85, f26]
        rw [f26] at b
        exact b4 d a b
      · rw [hst]; exact b5
      · rw [hst]; exact c5
      · rw [f26, f85]; exact hrg
      · rw [f26, b3]; omega
    · have h0 : iq_dg (fun d => iq_sp (g3 85) (g3 77 26) (g 78 1) d 1) (g3 77 26).toNat 0 = false := by
        rcases hb : iq_dg (fun d => iq_sp (g3 85) (g3 77 26) (g 78 1) d 1) (g3 77 26).toNat 0 with _ | _
        · rfl
        · obtain ⟨j, j1, j2, j3⟩ := iq_dgi.mp hb
          have := iq_sp1 hrg j1 (show j < g3 77 26 by omega)
          omega
      rw [e77, a3' 27 (by decide), a2 77 (by decide), a1 77 (by decide)]
      rw [iq_cn, iq_cn]
      have h0' : iq_dg (fun d => iq_sp (g3 85) (g3 77 26) (g 78 1) d 1) (g3 77 26).toNat ((0 : Nat) : Int) = false := h0
      rw [h0']
      simp [iq_uz]
    · have : u = 0 := by omega
      subst this
      obtain ⟨j, j1, j2, j3⟩ := iq_dgi.mp b
      have := iq_sp1 hrg j1 (show j < g3 77 26 by omega)
      try dsimp only at j3
      omega
  · rw [a2 77 (by decide), a1 77 (by decide)]; simp [iq_uz, iq_cn]
theorem sp114 {N : Nat} {xs : Nat → Int32} {Q : iq_T} {g : iq_I} {l : iq_J} (hp : iq_pb (g 78)) (q : ∀ g' : iq_I, (∀ j, ¬ j = 77 → (j < 85 ∨ 88 < j) → g' j = g j) → (∀ k, ¬ k = 26 → ¬ k = 27 → g' 77 k = g 77 k) → iq_LY g' (g 78 1) (iq_dg (iq_ch (g 78 1) (g 78 4) (g 78 2) (g 78 5)) (g 78 3).toNat) → iq_rg (g' 85) (g' 77 26) (g 78 1) → g' 77 26 ≤ g 78 3 → Q none g' l) : iq_P N xs 114 0 [some (iq_r 77)] [] g l Q := by
  have hp' := hp
  obtain ⟨p0, p1, p2, p3, p4, p5, p6, p7, p8⟩ := hp
  exact B114_77 _ _ (sp113 hp' (by omega) p3 (fun g' a b c d e => ⟨rfl, q g' a b c d e⟩))
