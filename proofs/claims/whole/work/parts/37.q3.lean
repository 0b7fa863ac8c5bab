/-! soundAt, recent, nominal, sharps, named, keyTone, keys, keyOf, keyTones, names, simplest. -/
/-- what sounds, by number -/
def aSound (S : Int64) (k : Int) : Int × Int := if iq_pk S k = -1 then (-1, 6) else (iq_pk S k, 0)
theorem iq_pkR (x : Int64) (k : Int) : -1 ≤ iq_pk x k ∧ iq_pk x k < 64 := by
  unfold iq_pk
  split
  · omega
  · have := iq_nthR (iq_tb x) 64 0 k (by omega); omega
theorem cSound {N : Nat} {xs : Nat → Int32} {Q : iq_T} {g : iq_I} {l : iq_J} {k : Int} (hd : -2147483648 ≤ k ∧ k ≤ 2147483647) (q : ∀ (g' : iq_I) (l' : iq_J), iq_KK g l g' l' → g' 0 0 = (aSound (l 23 3) k).2 → Q (some (iq_i (aSound (l 23 3) k).1)) g' l') : iq_P N xs 198 0 [some (iq_r 0), some (iq_i k)] [] g l Q := by
  unfold aSound at q
  have hr := iq_pkR (l 23 3) k
  refine B198_0 _ _ _ (sp166 hd ⟨_, rfl, sp167 (by omega) (fun c => ⟨_, rfl, ?_⟩) (fun c => ⟨_, rfl, ?_⟩)⟩)
  · rw [if_pos c] at q
    exact q _ _ ((iq_KK.refl _ _).uz iq_sx00) (by simp [iq_uz])
  · rw [if_neg c] at q
    exact q _ _ ((iq_KK.refl _ _).uz iq_sx00) (by simp [iq_uz])
theorem sp199_p {N : Nat} {xs : Nat → Int32} {Q : iq_T} {g : iq_I} {l : iq_J} {f : Int → Bool} {k : Int} (hk : -2147483648 ≤ k ∧ k ≤ 2147483647) (hf : ∀ t, 0 ≤ t → t < 60 → g 78 (20 + t) = if f t = true then 1 else 0) (n : Nat) : ∀ (j i : Int), 0 ≤ i → i + n = 60 → 0 ≤ j ∧ j ≤ i → (iq_nth f n i (k - j) = -1 → Q (some (iq_i (-1))) (iq_uz g 77 1 6) l) → (¬ iq_nth f n i (k - j) = -1 → Q (some (iq_i (iq_nth f n i (k - j)))) (iq_uz g 77 1 0) l) → iq_P N xs 199 4 [some (iq_r 77), some (iq_i k), some (iq_i j), some (iq_i i)] [] g l Q := by
  induction n with
  | zero =>
    intro j i h1 h2 h3 q1 q0
    exact B199_p4_77 _ _ _ _ _ ⟨by omega, fun h => sp98 ⟨_, rfl, q1 rfl⟩, fun h => by omega⟩
  | succ n ih =>
    intro j i h1 h2 h3 q1 q0
    rw [iq_nth] at q1 q0
    refine B199_p4_77 _ _ _ _ _ ⟨by omega, fun h => by omega, fun h => sp143 (by omega) ⟨_, rfl, ?_⟩⟩
    rw [hf i h1 (by omega)]
    rcases hb : f i with _ | _
    · rw [hb, if_neg (show ¬ (false = true) by decide)] at q1 q0
      rw [if_neg (show ¬ (false = true) by decide)]
      exact ⟨by omega, fun h => by omega, fun _ => ih j (i + 1) (by omega) (by omega) (by omega) q1 q0⟩
    · rw [hb, if_pos rfl] at q1 q0
      rw [if_pos rfl]
      refine ⟨by omega, fun _ => ⟨by omega, fun c => ?_, fun c => ?_⟩, fun h => by omega⟩
      · rw [if_neg (by omega), show k - j - 1 = k - (j + 1) by omega] at q1 q0
        exact ih (j + 1) (i + 1) (by omega) (by omega) (by omega) q1 q0
      · rw [if_pos (by omega)] at q1 q0
        exact sp115 ⟨_, rfl, q0 (by omega)⟩
theorem iq_nth_neg (f : Int → Bool) (n : Nat) : ∀ i k : Int, k < 0 → iq_nth f n i k = -1 := by
  induction n with
  | zero => intro i k _; rfl
  | succ n ih =>
    intro i k h
    rw [iq_nth]
    split
    · rw [if_neg (by omega)]; exact ih _ _ (by omega)
    · exact ih _ _ h
theorem iq_pk60 {x : Int64} {k p : Int} (hp : p ≤ 60) (h : ∀ t, iq_tb x t = true → t < p) : iq_nth (iq_tb x) 60 0 k = iq_pk x k := by
  unfold iq_pk
  have e := iq_nth_more (f := iq_tb x) 60 4 0 k (fun t ht => by
    rcases hb : iq_tb x t with _ | _
    · rfl
    · have := h t hb; omega)
  rw [← e]
  split
  · next c => exact iq_nth_neg _ _ _ _ c
  · rfl
theorem mSound {N : Nat} {xs : Nat → Int32} {Q : iq_T} {g : iq_I} {l : iq_J} {k : Int} (hs : iq_SR g l 23 24 25 0) (hd : -2147483648 ≤ k ∧ k ≤ 2147483647) (q : ∀ (g' : iq_I) (l' : iq_J), iq_KK g l g' l' → g' 0 0 = g 0 0 → g' 77 1 = (aSound (l 23 3) k).2 → Q (some (iq_i (aSound (l 23 3) k).1)) g' l') : iq_P N xs 199 0 [some (iq_r 77), some (iq_i k), none, none] [] g l Q := by
  unfold aSound at q
  have hp1 := hs.1.2.1
  have e := iq_pk60 (x := l 23 3) (k := k) hp1.2 hs.2.2.2.1
  refine B199_77 _ _ _ (sp199_p hd hs.snd 60 0 0 (by omega) (by omega) (by omega) (fun c => ?_) (fun c => ?_))
  · rw [Int.sub_zero, e] at c
    rw [if_pos c] at q
    exact q _ _ ((iq_KK.refl _ _).uz iq_sx771) (by simp [iq_uz]) (by simp [iq_uz])
  · rw [Int.sub_zero, e] at c ⊢
    rw [if_neg c] at q
    exact q _ _ ((iq_KK.refl _ _).uz iq_sx771) (by simp [iq_uz]) (by simp [iq_uz])
def aRecent (m : Int) (R : Int → Int) (k : Int) : Int × Int := if 0 ≤ k ∧ k < m then (R k, 0) else (-1, 6)
theorem cRecent {N : Nat} {xs : Nat → Int32} {Q : iq_T} {g : iq_I} {l : iq_J} {k : Int} (hs : iq_SR g l 23 24 25 0) (hd : -2147483648 ≤ k ∧ k ≤ 2147483647) (q : ∀ (g' : iq_I) (l' : iq_J), iq_KK g l g' l' → g' 0 0 = (aRecent (g 23 2) (g 25) k).2 → Q (some (iq_i (aRecent (g 23 2) (g 25) k).1)) g' l') : iq_P N xs 201 0 [some (iq_r 0), some (iq_i k)] [] g l Q := by
  unfold aRecent at q
  obtain ⟨-, -, -, -, -, s6, s7⟩ := hs
  have no : ¬ (0 ≤ k ∧ k < g 23 2) → iq_P N xs 167 0 [some (iq_r 0), some (iq_i (-1))] [] g l (fun r g4 l5 => ∃ z6, r = some (iq_i z6) ∧ (Q (some (iq_i z6)) g4 l5)) := fun c => by
    rw [if_neg c] at q
    exact sp167 (by omega) (fun _ => ⟨_, rfl, q _ _ ((iq_KK.refl _ _).uz iq_sx00) (by simp [iq_uz])⟩) (fun h => by omega)
  refine B201_0 _ _ _ (B200_23 _ _ _ ⟨by omega, fun c => ⟨_, rfl, no (by omega)⟩, fun c => ⟨by omega, fun c2 => ⟨_, rfl, no (by omega)⟩, fun c2 => ⟨by omega, fun c3 => by omega, fun c3 => ⟨by omega, ⟨_, rfl, ?_⟩⟩⟩⟩⟩)
  have := s7 k c c2
  rw [if_pos ⟨c, c2⟩] at q
  exact sp167 (by omega) (fun h => by omega) (fun _ => ⟨_, rfl, q _ _ ((iq_KK.refl _ _).uz iq_sx00) (by simp [iq_uz])⟩)
theorem mRecent {N : Nat} {xs : Nat → Int32} {Q : iq_T} {g : iq_I} {l : iq_J} {k : Int} (hs : iq_SR g l 23 24 25 0) (hd : -2147483648 ≤ k ∧ k ≤ 2147483647) (q : ∀ (g' : iq_I) (l' : iq_J), iq_KK g l g' l' → g' 0 0 = g 0 0 → g' 77 1 = (aRecent (g 23 2) (g 25) k).2 → Q (some (iq_i (aRecent (g 23 2) (g 25) k).1)) g' l') : iq_P N xs 202 0 [some (iq_r 77), some (iq_i k)] [] g l Q := by
  unfold aRecent at q
  obtain ⟨-, -, -, -, -, s6, s7⟩ := hs
  have e9 : g 78 9 = g 23 2 := by have := s6.2.2; rwa [Int.zero_add] at this
  refine B202_77 _ _ _ ⟨by omega, fun c => sp98 ⟨_, rfl, ?_⟩, fun c => ⟨by omega, fun c2 => ⟨by omega, sp115 ⟨_, rfl, ?_⟩⟩, fun c2 => sp98 ⟨_, rfl, ?_⟩⟩⟩
  · rw [if_neg (by omega)] at q
    exact q _ _ ((iq_KK.refl _ _).uz iq_sx771) (by simp [iq_uz]) (by simp [iq_uz])
  · have := (s7 k c (by omega)).1
    rw [show (0 : Int) + 80 + k = 80 + k by omega] at this
    rw [this]
    rw [if_pos (by omega)] at q
    exact q _ _ ((iq_KK.refl _ _).uz iq_sx771) (by simp [iq_uz]) (by simp [iq_uz])
  · rw [if_neg (by omega)] at q
    exact q _ _ ((iq_KK.refl _ _).uz iq_sx771) (by simp [iq_uz]) (by simp [iq_uz])
/-! names -/
def aNominal (P : Int → Int) (k : Int) : Int × Int := if -60 ≤ k ∧ k ≤ 60 then (k % P 6, 0) else (-1, 1)
def aSharps (P : Int → Int) (k : Int) : Int × Int := if -60 ≤ k ∧ k ≤ 60 then (k / P 6, 0) else (-1, 1)
theorem cNominal {N : Nat} {xs : Nat → Int32} {Q : iq_T} {g : iq_I} {l : iq_J} {k : Int} (hs : iq_SR g l 23 24 25 0) (hd : -2147483648 ≤ k ∧ k ≤ 2147483647) (q : ∀ (g' : iq_I) (l' : iq_J), iq_KK g l g' l' → g' 0 0 = (aNominal (g 24) k).2 → Q (some (iq_i (aNominal (g 24) k).1)) g' l') : iq_P N xs 229 0 [some (iq_r 0), some (iq_i k)] [] g l Q := by
  unfold aNominal at q
  refine B229_0 _ _ _ (sp146 hd (fun a => ⟨_, rfl, by omega, fun h => by omega, fun _ => sp44 ⟨_, rfl, ?_⟩⟩) (fun a b => ⟨_, rfl, by omega, fun _ => sp228 hs.1 (by omega) ⟨_, rfl, sp90 ⟨_, rfl, ?_⟩⟩, fun h => by omega⟩))
  · rw [if_neg a] at q
    exact q _ _ ((iq_KK.refl _ _).uz iq_sx00) (by simp [iq_uz])
  · rw [if_pos ⟨a, b⟩] at q
    exact q _ _ ((iq_KK.refl _ _).uz iq_sx00) (by simp [iq_uz])
theorem cSharps {N : Nat} {xs : Nat → Int32} {Q : iq_T} {g : iq_I} {l : iq_J} {k : Int} (hs : iq_SR g l 23 24 25 0) (hd : -2147483648 ≤ k ∧ k ≤ 2147483647) (q : ∀ (g' : iq_I) (l' : iq_J), iq_KK g l g' l' → g' 0 0 = (aSharps (g 24) k).2 → Q (some (iq_i (aSharps (g 24) k).1)) g' l') : iq_P N xs 234 0 [some (iq_r 0), some (iq_i k)] [] g l Q := by
  unfold aSharps at q
  refine B234_0 _ _ _ (sp146 hd (fun a => ⟨_, rfl, by omega, fun h => by omega, fun _ => sp44 ⟨_, rfl, ?_⟩⟩) (fun a b => ⟨_, rfl, by omega, fun _ => sp233 hs.1 (by omega) ⟨_, rfl, sp90 ⟨_, rfl, ?_⟩⟩, fun h => by omega⟩))
  · rw [if_neg a] at q
    exact q _ _ ((iq_KK.refl _ _).uz iq_sx00) (by simp [iq_uz])
  · rw [if_pos ⟨a, b⟩] at q
    exact q _ _ ((iq_KK.refl _ _).uz iq_sx00) (by simp [iq_uz])
theorem sp230 {N : Nat} {xs : Nat → Int32} {Q : iq_T} {g : iq_I} {l : iq_J} {k : Int} (hp : iq_pb (g 78)) (h1 : -2147483648 < k ∧ k ≤ 2147483647) (q : Q (some (iq_i (k % g 78 6))) g l) : iq_P N xs 230 0 [some (iq_r 77), some (iq_i k)] [] g l Q := by
  have := hp.2.2.2.2.2.2.1
  exact B230_77 _ _ _ (sp111 h1 (by omega) ⟨_, rfl, q⟩)
theorem iq_tde {k m : Int} (hm : 0 < m) : Int.tdiv (k - k % m) m = k / m := by
  have e := Int.emod_add_mul_ediv k m
  rw [show k - k % m = m * (k / m) by omega, Int.mul_tdiv_cancel_left _ (by omega)]
theorem sp235 {N : Nat} {xs : Nat → Int32} {Q : iq_T} {g : iq_I} {l : iq_J} {k : Int} (hp : iq_pb (g 78)) (h1 : -2147483000 ≤ k ∧ k ≤ 2147483647) (q : Q (some (iq_i (k / g 78 6))) g l) : iq_P N xs 235 0 [some (iq_r 77), some (iq_i k)] [] g l Q := by
  have h6 := hp.2.2.2.2.2.2.1
  have e1 := Int.emod_nonneg k (show g 78 6 ≠ 0 by omega)
  have e2 := Int.emod_lt_of_pos k (show 0 < g 78 6 by omega)
  refine B235_77 _ _ _ (sp230 hp (by omega) ⟨_, rfl, by omega, ?_⟩)
  rw [iq_tde (by omega)]
  exact q
theorem mNominal {N : Nat} {xs : Nat → Int32} {Q : iq_T} {g : iq_I} {l : iq_J} {k : Int} (hs : iq_SR g l 23 24 25 0) (hd : -2147483648 ≤ k ∧ k ≤ 2147483647) (q : ∀ (g' : iq_I) (l' : iq_J), iq_KK g l g' l' → g' 0 0 = g 0 0 → g' 77 1 = (aNominal (g 24) k).2 → Q (some (iq_i (aNominal (g 24) k).1)) g' l') : iq_P N xs 231 0 [some (iq_r 77), some (iq_i k)] [] g l Q := by
  unfold aNominal at q
  have en := iq_i2lv hd.1 hd.2
  refine B231_77 _ _ _ (sp149 (fun c c2 => ⟨_, rfl, by omega, fun h => by omega, fun _ => ?_⟩) (fun c => ⟨_, rfl, by omega, fun _ => sp98 ⟨_, rfl, ?_⟩, fun h => by omega⟩))
  · rw [en, iq_ofm60] at c
    rw [en, iq_of60] at c2
    rw [if_pos ⟨c, c2⟩, ← hs.p78 6 (by omega) (by omega)] at q
    exact sp230 (iq_pb_congr hs.p78 hs.1) (by omega) ⟨_, rfl, sp115 ⟨_, rfl, q _ _ ((iq_KK.refl _ _).uz iq_sx771) (by simp [iq_uz]) (by simp [iq_uz])⟩⟩
  · rw [en, iq_ofm60, iq_of60] at c
    rw [if_neg c] at q
    exact q _ _ ((iq_KK.refl _ _).uz iq_sx771) (by simp [iq_uz]) (by simp [iq_uz])
theorem mSharps {N : Nat} {xs : Nat → Int32} {Q : iq_T} {g : iq_I} {l : iq_J} {k : Int} (hs : iq_SR g l 23 24 25 0) (hd : -2147483648 ≤ k ∧ k ≤ 2147483647) (q : ∀ (g' : iq_I) (l' : iq_J), iq_KK g l g' l' → g' 0 0 = g 0 0 → g' 77 1 = (aSharps (g 24) k).2 → Q (some (iq_i (aSharps (g 24) k).1)) g' l') : iq_P N xs 236 0 [some (iq_r 77), some (iq_i k)] [] g l Q := by
  unfold aSharps at q
  have en := iq_i2lv hd.1 hd.2
  refine B236_77 _ _ _ (sp149 (fun c c2 => ⟨_, rfl, by omega, fun h => by omega, fun _ => ?_⟩) (fun c => ⟨_, rfl, by omega, fun _ => sp98 ⟨_, rfl, ?_⟩, fun h => by omega⟩))
  · rw [en, iq_ofm60] at c
    rw [en, iq_of60] at c2
    rw [if_pos ⟨c, c2⟩, ← hs.p78 6 (by omega) (by omega)] at q
    exact sp235 (iq_pb_congr hs.p78 hs.1) (by omega) ⟨_, rfl, sp115 ⟨_, rfl, q _ _ ((iq_KK.refl _ _).uz iq_sx771) (by simp [iq_uz]) (by simp [iq_uz])⟩⟩
  · rw [en, iq_ofm60, iq_of60] at c
    rw [if_neg c] at q
    exact q _ _ ((iq_KK.refl _ _).uz iq_sx771) (by simp [iq_uz]) (by simp [iq_uz])
def aNamed (P : Int → Int) (n s : Int) : Int × Int := if (0 ≤ n ∧ n < P 6) ∧ -9 ≤ s ∧ s ≤ 9 then (iq_ch (P 1) (P 4) (P 2) (P 5) (s * P 6 + n), 0) else (-1, 1)
theorem iq_mulS {s m : Int} (h1 : -9 ≤ s) (h2 : s ≤ 9) (h3 : 1 ≤ m) (h4 : m ≤ 7) : -63 ≤ s * m ∧ s * m ≤ 63 := by
  have : m = 1 ∨ m = 2 ∨ m = 3 ∨ m = 4 ∨ m = 5 ∨ m = 6 ∨ m = 7 := by omega
  rcases this with rfl | rfl | rfl | rfl | rfl | rfl | rfl <;> omega
theorem cNamed {N : Nat} {xs : Nat → Int32} {Q : iq_T} {g : iq_I} {l : iq_J} {n s : Int} (hs : iq_SR g l 23 24 25 0) (hd : -2147483648 ≤ n ∧ n ≤ 2147483647) (he : -2147483648 ≤ s ∧ s ≤ 2147483647) (q : ∀ (g' : iq_I) (l' : iq_J), iq_KK g l g' l' → g' 0 0 = (aNamed (g 24) n s).2 → Q (some (iq_i (aNamed (g 24) n s).1)) g' l') : iq_P N xs 237 0 [some (iq_r 0), some (iq_i n), some (iq_i s), none] [] g l Q := by
  unfold aNamed at q
  have h6 := hs.1.2.2.2.2.2.2.1
  have no : ¬ ((0 ≤ n ∧ n < g 24 6) ∧ -9 ≤ s ∧ s ≤ 9) → iq_P N xs 44 0 [some (iq_r 0), some (iq_i 1)] [] g l (fun r g1 l2 => ∃ z3, r = some (iq_i z3) ∧ (Q (some (iq_i z3)) g1 l2)) := fun c => by
    rw [if_neg c] at q
    exact sp44 ⟨_, rfl, q _ _ ((iq_KK.refl _ _).uz iq_sx00) (by simp [iq_uz])⟩
  refine B237_0 _ _ _ _ (sp135_23 (by omega) ⟨_, rfl, by omega, fun c => no (by omega), fun c => ⟨by omega, fun c2 => no (by omega), fun c2 => ⟨by omega, fun c3 => no (by omega), fun c3 => ⟨by omega, fun c4 => ?_, fun c4 => no (by omega)⟩⟩⟩⟩)
  rw [if_pos ⟨⟨c, c2⟩, c3, c4⟩] at q
  have := iq_mulS c3 c4 h6.1 h6.2
  exact sp147_23 hs.1 (by omega) ⟨_, rfl, sp90 ⟨_, rfl, q _ _ ((iq_KK.refl _ _).uz iq_sx00) (by simp [iq_uz])⟩⟩
theorem iq_of9 : (Int64.ofNat 9).toInt = 9 := by decide
theorem iq_ofm9 : (Int64.ofNat 18446744073709551607).toInt = -9 := by decide
theorem iq_sub1 {x : Int} (h1 : 0 ≤ x) (h2 : x ≤ 1000) : (iq_i2l x - 1).toInt = x - 1 := by
  rw [Int64.toInt_sub, iq_i2lv (by omega) (by omega), iq_of641]
  exact Int.bmod_eq_of_le (by omega) (by omega)
theorem mNamed {N : Nat} {xs : Nat → Int32} {Q : iq_T} {g : iq_I} {l : iq_J} {n s : Int} (hs : iq_SR g l 23 24 25 0) (hd : -2147483648 ≤ n ∧ n ≤ 2147483647) (he : -2147483648 ≤ s ∧ s ≤ 2147483647) (q : ∀ (g' : iq_I) (l' : iq_J), iq_KK g l g' l' → g' 0 0 = g 0 0 → g' 77 1 = (aNamed (g 24) n s).2 → Q (some (iq_i (aNamed (g 24) n s).1)) g' l') : iq_P N xs 238 0 [some (iq_r 77), some (iq_i n), some (iq_i s)] [] g l Q := by
  unfold aNamed at q
  have hp := hs.1
  obtain ⟨p0, p1, p2, p3, p4, p5, p6, p7, p8⟩ := hp
  have en := iq_i2lv hd.1 hd.2
  have es := iq_i2lv he.1 he.2
  have e6 := hs.p78 6 (by omega) (by omega)
  have e2 := hs.p78 2 (by omega) (by omega)
  have e5 := hs.p78 5 (by omega) (by omega)
  have em := iq_sub1 (x := g 24 6) (by omega) (by omega)
  refine B238_77 _ _ _ _ (sp149 (fun c c2 => ⟨_, rfl, by omega, fun h => by omega, fun _ => sp149 (fun c3 c4 => ⟨_, rfl, by omega, fun _ => ?_, fun h => by omega⟩) (fun c3 => ⟨_, rfl, by omega, fun h => by omega, fun _ => sp98 ⟨_, rfl, ?_⟩⟩)⟩) (fun c => ⟨_, rfl, by omega, fun _ => sp98 ⟨_, rfl, ?_⟩, fun h => by omega⟩))
  · rw [en, iq_of640] at c
    rw [en, e6, em] at c2
    rw [es, iq_ofm9] at c3
    rw [es, iq_of9] at c4
    rw [if_pos ⟨⟨c, by omega⟩, c3, c4⟩] at q
    have := iq_mulS c3 c4 p6.1 p6.2
    rw [e6]
    refine sp112 (iq_pb_congr hs.p78 hs.1) (by omega) (by omega) ⟨_, rfl, sp115 ⟨_, rfl, ?_⟩⟩
    rw [hs.ch, e2, e5]
    exact q _ _ ((iq_KK.refl _ _).uz iq_sx771) (by simp [iq_uz]) (by simp [iq_uz])
  · rw [es, iq_ofm9, iq_of9] at c3
    rw [if_neg (by omega)] at q
    exact q _ _ ((iq_KK.refl _ _).uz iq_sx771) (by simp [iq_uz]) (by simp [iq_uz])
  · rw [en, e6, em, iq_of640] at c
    rw [if_neg (by omega)] at q
    exact q _ _ ((iq_KK.refl _ _).uz iq_sx771) (by simp [iq_uz]) (by simp [iq_uz])
