/-! The class's small methods. -/
theorem sp4 {N : Nat} {xs : Nat → Int32} {Q : iq_T} {g : iq_I} {l : iq_J} {a0 a1 : Int} (h1 : -2147483648 < a0 ∧ a0 ≤ 2147483647) (h2 : 0 < a1 ∧ a1 ≤ 2147483647) (q : Q (some (iq_i (a0 % a1))) g l) : iq_P N xs 4 0 [some (iq_i a0), some (iq_i a1), none] [] g l Q := by
  obtain ⟨t1, t2, t3, t4, t5⟩ := iq_tmd (x := a0) h2.1
  have hx := iq_xorn (x := a0) (y := a1) (by omega) (by omega) (by omega) (by omega)
  refine B4 _ _ _ _ ⟨by omega, iq_xorR _ _, fun h => ?_, fun h => ⟨by omega, fun h3 => ?_, fun h3 => ?_⟩⟩
  · rw [t1 (by omega)]; exact q
  · rw [h3, ← t2 (by omega) h3]; exact q
  · rw [t3 (by omega) h3]; exact q
theorem iq_tdv {x y : Int} (h : 0 < y) : (0 ≤ x → Int.tdiv x y = x / y) ∧ (x < 0 → Int.tdiv x y * y = x → Int.tdiv x y = x / y) ∧ (x < 0 → ¬ Int.tdiv x y * y = x → Int.tdiv x y - 1 = x / y) := by
  obtain ⟨t1, t2, t3, t4, t5⟩ := iq_tmd (x := x) h
  have e1 := Int.tmod_add_tdiv_mul x y
  have e2 := Int.emod_add_mul_ediv x y
  have hinj : ∀ a b : Int, y * a = y * b → a = b := fun a b hab => Int.eq_of_mul_eq_mul_left (by omega) hab
  refine ⟨fun h0 => ?_, fun h0 h1 => ?_, fun h0 h1 => ?_⟩
  · refine hinj _ _ ?_
    rw [Int.mul_comm y (x.tdiv y)]
    have := t1 h0
    omega
  · refine hinj _ _ ?_
    rw [Int.mul_comm y (x.tdiv y)]
    have := t2 h0 (by omega)
    omega
  · refine hinj _ _ ?_
    rw [Int.mul_sub, Int.mul_comm y (x.tdiv y)]
    have := t3 h0 (by omega)
    omega
theorem sp232 {N : Nat} {xs : Nat → Int32} {Q : iq_T} {g : iq_I} {l : iq_J} {a0 a1 : Int} (h1 : -2147483648 < a0 ∧ a0 ≤ 2147483647) (h2 : 0 < a1 ∧ a1 ≤ 2147483647) (q : Q (some (iq_i (a0 / a1))) g l) : iq_P N xs 232 0 [some (iq_i a0), some (iq_i a1), none] [] g l Q := by
  obtain ⟨t1, t2, t3⟩ := iq_tdv (x := a0) h2.1
  obtain ⟨-, -, -, t4, t5⟩ := iq_tmd (x := a0) h2.1
  have e1 := Int.tmod_add_tdiv_mul a0 a1
  have hx := iq_xorn (x := a0) (y := a1) (by omega) (by omega) (by omega) (by omega)
  have hm : a0 < 0 → Int.tmod a0 a1 ≤ 0 := fun h => by
    obtain ⟨u1, u2, u3, u4, u5⟩ := iq_tmd (x := a0) h2.1
    have a2 := Int.emod_lt_of_pos a0 h2.1
    by_cases c : Int.tmod a0 a1 = 0
    · omega
    · have := u3 h c
      omega
  refine B232 _ _ _ _ ⟨by omega, iq_xorR _ _, fun h => ?_, fun h => ⟨?_, fun h3 => ?_, fun h3 => ?_⟩⟩
  · rw [t1 (by omega)]; exact q
  · have := hm (by omega)
    omega
  · rw [t2 (by omega) h3]; exact q
  · rw [t3 (by omega) h3]; exact q
theorem sp239 {N : Nat} {xs : Nat → Int32} {Q : iq_T} {g : iq_I} {l : iq_J} {a0 : Int} (h1 : -2147483648 < a0 ∧ a0 ≤ 2147483647) (q : Q (some (iq_i (a0.natAbs : Int))) g l) : iq_P N xs 239 0 [some (iq_i a0)] [] g l Q := by
  refine B239 _ _ _ ⟨by omega, fun h => ?_, fun h => ?_⟩
  · rw [show a0 = (a0.natAbs : Int) by omega]; exact q
  · rw [show -a0 = (a0.natAbs : Int) by omega]; exact q
theorem sp95 {N : Nat} {xs : Nat → Int32} {Q : iq_T} {g : iq_I} {l : iq_J} {a0 a1 : Int} (h1 : -2147483648 ≤ a0 ∧ a0 ≤ 2147483647) (h2 : -2147483648 ≤ a1 ∧ a1 ≤ 2147483647) (q : Q (some (iq_i (min a0 a1))) g l) : iq_P N xs 95 0 [some (iq_i a0), some (iq_i a1)] [] g l Q := by
  refine B95 _ _ _ _ ⟨by omega, fun h => ?_, fun h => ?_⟩
  · rw [show a1 = min a0 a1 by omega]; exact q
  · rw [show a0 = min a0 a1 by omega]; exact q
theorem sp270 {N : Nat} {xs : Nat → Int32} {Q : iq_T} {g : iq_I} {l : iq_J} {a0 a1 : Int} (h1 : -2147483648 ≤ a0 ∧ a0 ≤ 2147483647) (h2 : -2147483648 ≤ a1 ∧ a1 ≤ 2147483647) (q : Q (some (iq_i (max a0 a1))) g l) : iq_P N xs 270 0 [some (iq_i a0), some (iq_i a1)] [] g l Q := by
  refine B270 _ _ _ _ ⟨by omega, fun h => ?_, fun h => ?_⟩
  · rw [show a1 = max a0 a1 by omega]; exact q
  · rw [show a0 = max a0 a1 by omega]; exact q
/-! sets -/
def iq_of (n : Int) : Int64 := if 0 ≤ n ∧ n < 64 then iq_lsl 1 n else 0
theorem iq_tbof (n t : Int) : iq_tb (iq_of n) t = (decide (0 ≤ n) && decide (n < 64) && decide (t = n)) := by
  unfold iq_of
  split
  · next h => rw [iq_tb_of h.1 h.2]; simp [h.1, h.2]
  · next h =>
    rw [iq_tb_0]
    by_cases c : 0 ≤ n
    · have : ¬ n < 64 := fun h2 => h ⟨c, h2⟩
      simp [this]
    · simp [c]
theorem sp6 {N : Nat} {xs : Nat → Int32} {Q : iq_T} {g : iq_I} {l : iq_J} {a0 : Int} (h1 : -2147483648 ≤ a0 ∧ a0 ≤ 2147483647) (q : Q (some (iq_l (iq_of a0))) g l) : iq_P N xs 6 0 [some (iq_i a0)] [] g l Q := by
  unfold iq_of at q
  refine B6 _ _ _ ⟨by omega, fun h => ?_, fun h => ⟨by omega, fun h2 => ?_, fun h2 => ?_⟩⟩
  · rw [if_neg (by omega)] at q; exact q
  · rw [if_neg (by omega)] at q; exact q
  · rw [if_pos ⟨h, h2⟩] at q; exact q
theorem sp7 {N : Nat} {xs : Nat → Int32} {Q : iq_T} {g : iq_I} {l : iq_J} {a0 : Int} (h1 : -2147483648 ≤ a0 ∧ a0 ≤ 2147483647) (q : Q (some (iq_l (iq_of a0 - 1))) g l) : iq_P N xs 7 0 [some (iq_i a0)] [] g l Q :=
  B7 _ _ _ (sp6 h1 ⟨_, rfl, q⟩)
theorem iq_tbbl {n : Int} (h1 : 0 ≤ n) (h2 : n < 64) (t : Int) : iq_tb (iq_of n - 1) t = (decide (0 ≤ t) && decide (t < n)) := by
  unfold iq_of
  rw [if_pos ⟨h1, h2⟩]
  exact iq_tb_below h1 h2 t
theorem sp74 {N : Nat} {xs : Nat → Int32} {Q : iq_T} {g : iq_I} {l : iq_J} {a0 : Int64} {a1 : Int} (h1 : -2147483648 ≤ a1 ∧ a1 ≤ 2147483647) (q1 : iq_tb a0 a1 = true → Q (some (iq_i 1)) g l) (q0 : iq_tb a0 a1 = false → Q (some (iq_i 0)) g l) : iq_P N xs 74 0 [some (iq_l a0), none, some (iq_i a1)] [] g l Q := by
  refine B74 _ _ _ _ ⟨by omega, fun h => q0 (iq_tb_neg h), fun h => ⟨by omega, fun h2 => q0 (iq_tb_ge h2), fun h2 => ⟨iq_lcR _ _, fun h3 => q0 ?_, fun h3 => q1 ?_⟩⟩⟩
  · rw [iq_lc0] at h3
    have := congrArg (fun x => iq_tb x 0) h3
    try dsimp only at this
    rw [iq_tb_and, iq_tb_lsr h h2 (by omega), iq_tb_1, iq_tb_0] at this
    simpa using this
  · rw [iq_lc0, iq_ne0] at h3
    obtain ⟨t, t1, t2, t3⟩ := h3
    rw [iq_tb_and, iq_tb_lsr h h2 t1, iq_tb_1] at t3
    simp only [Bool.and_eq_true, decide_eq_true_eq] at t3
    obtain ⟨t3, rfl⟩ := t3
    simpa using t3
/-- the k-th from i on, of n -/
def iq_nth (f : Int → Bool) : Nat → Int → Int → Int
  | 0, _, _ => -1
  | n + 1, i, k => if f i = true then (if k = 0 then i else iq_nth f n (i + 1) (k - 1)) else iq_nth f n (i + 1) k
theorem sp166_p {N : Nat} {xs : Nat → Int32} {Q : iq_T} {g : iq_I} {l : iq_J} {a0 : Int64} {a1 : Int} (n : Nat) : ∀ (k i : Int), 0 ≤ i → i + n = 64 → 0 ≤ k ∧ k ≤ 2147483647 → Q (some (iq_i (iq_nth (iq_tb a0) n i k))) g l → iq_P N xs 166 11 [some (iq_l a0), none, some (iq_i a1), some (iq_i k), some (iq_i i)] [] g l Q := by
  induction n with
  | zero =>
    intro k i h1 h2 h3 q
    exact B166_p11 _ _ _ _ _ _ ⟨by omega, fun h => q, fun h => by omega⟩
  | succ n ih =>
    intro k i h1 h2 h3 q
    rw [iq_nth] at q
    refine B166_p11 _ _ _ _ _ _ ⟨by omega, fun h => by omega, fun h => sp74 (by omega) (fun hb => ⟨_, rfl, by omega, fun h => by omega, fun _ => ⟨by omega, fun hk => ?_, fun hk => ?_⟩⟩) (fun hb => ⟨_, rfl, by omega, fun _ => ?_, fun h => by omega⟩)⟩
    · rw [if_pos hb, if_neg hk, show k - 1 = k + (-1) by omega] at q
      exact ih (k + (-1)) (i + 1) (by omega) (by omega) (by omega) q
    · rw [if_pos hb, if_pos hk] at q
      exact q
    · rw [if_neg (by rw [hb]; decide)] at q
      exact ih k (i + 1) (by omega) (by omega) h3 q
/-- the k-th of a set, or -1 -/
def iq_pk (x : Int64) (k : Int) : Int := if k < 0 then -1 else iq_nth (iq_tb x) 64 0 k
theorem sp166 {N : Nat} {xs : Nat → Int32} {Q : iq_T} {g : iq_I} {l : iq_J} {a0 : Int64} {a1 : Int} (h : -2147483648 ≤ a1 ∧ a1 ≤ 2147483647) (q : Q (some (iq_i (iq_pk a0 a1))) g l) : iq_P N xs 166 0 [some (iq_l a0), none, some (iq_i a1), none, none] [] g l Q := by
  unfold iq_pk at q
  refine B166 _ _ _ _ ⟨by omega, fun h1 => ?_, fun h1 => ?_⟩
  · rw [if_neg (by omega)] at q
    exact sp166_p 64 a1 0 (by omega) (by omega) (by omega) q
  · rw [if_pos h1] at q
    exact q
theorem sp188 {N : Nat} {xs : Nat → Int32} {Q : iq_T} {g : iq_I} {l : iq_J} {a0 : Int64} {a1 a2 : Int} (h2 : 0 ≤ a2 ∧ a2 < 64) (q : Q (some (iq_l ((iq_lsl a0 a1 ||| iq_lsr a0 (a2 - a1)) &&& (iq_of a2 - 1)))) g l) : iq_P N xs 188 0 [some (iq_l a0), none, some (iq_i a1), some (iq_i a2)] [] g l Q :=
  B188 _ _ _ _ _ (sp7 (by omega) ⟨_, rfl, q⟩)
def iq_turn (x : Int64) (a b : Int) : Int64 := (iq_lsl x a ||| iq_lsr x (b - a)) &&& (iq_of b - 1)
theorem iq_tbturn {x : Int64} {a p : Int} (h1 : 0 ≤ a) (h2 : a < p) (h3 : p < 64) (hx : ∀ t, iq_tb x t = true → t < p) (t : Int) : iq_tb (iq_turn x a p) t = (decide (0 ≤ t) && decide (t < p) && iq_tb x ((t - a) % p)) := by
  unfold iq_turn
  rw [iq_tb_and, iq_tbbl (by omega) h3, iq_tb_or, iq_tb_lsl (by omega) (by omega)]
  by_cases c : 0 ≤ t ∧ t < p
  · rw [iq_tb_lsr (by omega) (by omega) (by omega)]
    have e0 : t < 64 := by omega
    simp only [c.1, c.2, e0, decide_true, Bool.true_and, Bool.and_true]
    by_cases c2 : a ≤ t
    · have e1 : (t - a) % p = t - a := Int.emod_eq_of_lt (by omega) (by omega)
      rw [e1]
      have e2 : iq_tb x (t + (p - a)) = false := by
        rcases hb : iq_tb x (t + (p - a)) with _ | _
        · rfl
        · have := hx _ hb
          omega
      rw [e2]; simp
    · have e1 : (t - a) % p = t + (p - a) := by
        rw [show t - a = (t + (p - a)) + p * (-1) by omega, Int.add_mul_emod_self_left]
        exact Int.emod_eq_of_lt (by omega) (by omega)
      rw [e1, iq_tb_neg (show t - a < 0 by omega)]; simp
  · have : (decide (0 ≤ t) && decide (t < p)) = false := by
      simp; omega
    rw [this]; simp
