/-! mean, on both sides. -/
def sf_sum (F : Nat → Int) : Nat → Int
  | 0 => 0
  | k + 1 => sf_sum F k + F k
theorem sf_sum_congr {F G : Nat → Int} : ∀ {k : Nat}, (∀ i, i < k → F i = G i) → sf_sum F k = sf_sum G k := by
  intro k
  induction k with
  | zero => intro _; rfl
  | succ k ih => intro h; rw [sf_sum, sf_sum, ih (fun i hi => h i (by omega)), h k (by omega)]
theorem sf_sumR {F : Nat → Int} (h : ∀ i, 0 ≤ F i ∧ F i ≤ 64) : ∀ k : Nat, 0 ≤ sf_sum F k ∧ sf_sum F k ≤ 64 * k := by
  intro k
  induction k with
  | zero => rw [sf_sum]; omega
  | succ k ih => rw [sf_sum]; have := h k; omega
/-- what sounds behind each trial -/
def sf_mf (n : Int) (K T M B : Int → Int) (Xs : Nat → iq_I) (S : Int64) (a : Int) : Nat → Int := fun i => iq_cn (iq_tb (sf_run n K T M B (Xs i) S (a + i)).2) 64
theorem sf_mfR (n : Int) (K T M B : Int → Int) (Xs : Nat → iq_I) (S : Int64) (a : Int) : ∀ i, 0 ≤ sf_mf n K T M B Xs S a i ∧ sf_mf n K T M B Xs S a i ≤ 64 := fun _ => iq_cn_nonneg _ 64
theorem sf_i2a {a b : Int} (ha : 0 ≤ a ∧ a ≤ 1000000) (hb : 0 ≤ b ∧ b ≤ 1000000) : iq_i2l a + iq_i2l b = iq_i2l (a + b) := by
  rw [iq_i2le (by omega) (by omega), iq_i2le (by omega) (by omega), iq_i2le (by omega) (by omega), Int64.ofInt_add]
theorem sf_mfb {n : Int} {K T M B : Int → Int} {Xs : Nat → iq_I} {S : Int64} {a b : Int} (hb : 1 ≤ b ∧ b ≤ 20) : sf_fb (iq_i2l (sf_sum (sf_mf n K T M B Xs S a) b.toNat)) (iq_i2l b) := by
  have h := sf_sumR (sf_mfR n K T M B Xs S a) b.toNat
  unfold sf_fb
  rw [iq_i2lv (by omega) (by omega), iq_i2lv (by omega) (by omega)]
  refine ⟨by omega, by omega, ?_⟩
  have : (2 : Int) ^ 60 = 1152921504606846976 := by decide
  omega
def aMean (n : Int) (K T M B : Int → Int) (Xs : Nat → iq_I) (S : Int64) (a b : Int) : Int64 × Int64 := sf_tl (iq_i2l (sf_sum (sf_mf n K T M B Xs S a) b.toNat)) (iq_i2l b)
theorem sp353_p {N : Nat} {xs : Nat → Int32} {Q : iq_T} {g : iq_I} {l : iq_J} {P : Int → Int} {S : Int64} {m : Int} {R : Int → Int} {n a : Int} {K T M B : Int → Int} {b : Nat} (hc : iq_CZ g l 23 24 25 P S m R) (p : sf_PG g n K T M B) (hP : sf_GP n K T M B) (ha : 0 ≤ a ∧ a + b ≤ 10000) (hb : 1 ≤ b ∧ b ≤ 20) (q : ∀ Xs : Nat → iq_I, (∀ i, (Xs i) 4 = P ∧ (Xs i) 5 = R ∧ (Xs i) 6 0 = m) → ∀ (g' : iq_I) (l' : iq_J), iq_KF g l g' l' → g' 0 0 = 0 → l' 0 1 = (aMean n K T M B Xs S a b).1 → l' 0 2 = (aMean n K T M B Xs S a b).2 → l' 77 2 = l 77 2 → l' 77 3 = l 77 3 → Q (some (iq_i 1)) g' l') (e : Nat) : ∀ (v : Nat) (G : iq_I) (L : iq_J) (Xs : Nat → iq_I), v + e = b → (∀ j, ¬ (44 ≤ j ∧ j ≤ 50) → G j = g j ∧ L j = l j) → (∀ i, (Xs i) 4 = P ∧ (Xs i) 5 = R ∧ (Xs i) 6 0 = m) → iq_P N xs 353 61 [some (iq_r 0), some (iq_i a), some (iq_i b), some (iq_l (iq_i2l (sf_sum (sf_mf n K T M B Xs S a) v))), none, some (iq_i v)] [] G L Q := by
  induction e with
  | zero =>
    intro v G L Xs hv k hX
    have vb : v = b := by omega
    subst vb
    have fb := sf_mfb (n := n) (K := K) (T := T) (M := M) (B := B) (Xs := Xs) (S := S) (a := a) (b := v) (by omega)
    rw [show ((v : Int)).toNat = v by omega] at fb
    refine B353_p61_0 _ _ _ _ _ _ ⟨by omega, fun _ => sp301 fb ⟨_, rfl, .inr rfl, q Xs hX _ _ ?_ (by simp [iq_uz]) ?_ ?_ ?_ ?_⟩, fun h => by omega⟩
    · refine ⟨iq_co_of (fun j i x => ?_), iq_co_of (fun j i x => ?_)⟩
      · have h44 : ¬ (44 ≤ j ∧ j ≤ 50) := fun z => by
          have : iq_sx j i = true := by unfold iq_sx; simp [z.1, z.2]
          rw [this] at x; cases x
        have h00 : ¬ (j = 0 ∧ i = 0) := fun z => by
          obtain ⟨rfl, rfl⟩ := z
          simp [iq_sx] at x
        rw [← (k j h44).1]
        unfold iq_uz
        rw [if_neg h00]
      · have h44 : ¬ (44 ≤ j ∧ j ≤ 50) := fun z => by
          have : iq_sx j i = true := by unfold iq_sx; simp [z.1, z.2]
          rw [this] at x; cases x
        have h01 : ¬ (j = 0 ∧ i = 1) := fun z => by
          obtain ⟨rfl, rfl⟩ := z
          simp [iq_sx] at x
        have h02 : ¬ (j = 0 ∧ i = 2) := fun z => by
          obtain ⟨rfl, rfl⟩ := z
          simp [iq_sx] at x
        rw [← (k j h44).2]
        unfold iq_uz
        rw [if_neg h02, if_neg h01]
    · unfold aMean sf_tl
      rw [show ((v : Int)).toNat = v by omega]
      simp [iq_uz]
    · unfold aMean sf_tl
      rw [show ((v : Int)).toNat = v by omega]
      simp [iq_uz]
    · rw [← (k 77 (by decide)).2]; simp [iq_uz]
    · rw [← (k 77 (by decide)).2]; simp [iq_uz]
  | succ e ih =>
    intro v G L Xs hv k hX
    have sR := sf_sumR (sf_mfR n K T M B Xs S a) v
    obtain ⟨c0, c1, c2, c3, c4, c5⟩ := hc
    have m12 := c0.2.2.1
    refine B353_p61_0 _ _ _ _ _ _ ⟨by omega, fun h => by omega, fun _ => B87_44_23 _ _ ⟨by omega, by omega, rfl, ?_⟩⟩
    have G23 := (k 23 (by decide))
    have G24 := (k 24 (by decide))
    have G25 := (k 25 (by decide))
    have p' : sf_PG (iq_uz (iq_rz (iq_rz G 45 (iq_cz (G 24) (G 45) 0 0 9)) 46 (iq_cz (G 25) (G 46) 0 0 12)) 44 2 (G 23 2)) n K T M B := by
      have e : ∀ j, 26 ≤ j → j ≤ 30 → (iq_uz (iq_rz (iq_rz G 45 (iq_cz (G 24) (G 45) 0 0 9)) 46 (iq_cz (G 25) (G 46) 0 0 12)) 44 2 (G 23 2)) j = g j := fun j y1 y2 => by
        rw [sf_uzn _ (by omega), sf_rzn _ (by omega), sf_rzn _ (by omega)]
        exact (k j (by omega)).1
      obtain ⟨p1, p2, p3, p4, p5⟩ := p
      exact ⟨by rw [e 26 (by omega) (by omega)]; exact p1, by rw [e 27 (by omega) (by omega)]; exact p2, by rw [e 28 (by omega) (by omega)]; exact p3, by rw [e 29 (by omega) (by omega)]; exact p4, by rw [e 30 (by omega) (by omega)]; exact p5⟩
    have z : iq_CZ (iq_uz (iq_rz (iq_rz G 45 (iq_cz (G 24) (G 45) 0 0 9)) 46 (iq_cz (G 25) (G 46) 0 0 12)) 44 2 (G 23 2)) (iq_uz (iq_uz L 44 3 (L 23 3)) 44 4 (L 23 4)) 44 45 46 P S m R := by
      refine ⟨c0, fun i y1 y2 => ?_, ?_, fun t => ?_, ?_, fun i y1 y2 => ?_⟩
      · rw [← c1 i y1 y2, ← G24.1]
        simp [iq_uz, iq_rz, iq_cz, y1, y2]
      · rw [← c2, ← G23.2]; simp [iq_uz]
      · rw [← c3 t, ← G23.2]; simp [iq_uz]
      · rw [← c4, ← G23.1]; simp [iq_uz]
      · rw [← c5 i y1 y2, ← G25.1]
        have : i < 12 := by omega
        simp [iq_uz, iq_rz, iq_cz, y1, this]
    refine sp333_47 (sf_x0H (c := 47) z) p' hP (by omega) (fun g2 l2 h hG => ⟨rfl, sp88 ⟨_, rfl, ?_⟩⟩)
    rw [h.2.2.2.2.2.2.2.1]
    have nx := ih (v + 1) g2 l2 (fun i => if i = v then sf_x0 (iq_uz (iq_rz (iq_rz G 45 (iq_cz (G 24) (G 45) 0 0 9)) 46 (iq_cz (G 25) (G 46) 0 0 12)) 44 2 (G 23 2)) 47 P m R else Xs i) (by omega) (fun j hj => ?_) (fun i => ?_)
    · rw [sf_sum] at nx
      rw [sf_sum_congr (G := sf_mf n K T M B Xs S a) (fun i hi => ?_)] at nx
      · have e2 : sf_mf n K T M B (fun i => if i = v then sf_x0 (iq_uz (iq_rz (iq_rz G 45 (iq_cz (G 24) (G 45) 0 0 9)) 46 (iq_cz (G 25) (G 46) 0 0 12)) 44 2 (G 23 2)) 47 P m R else Xs i) S a v = iq_cn (iq_tb (sf_run n K T M B (sf_x0 (iq_uz (iq_rz (iq_rz G 45 (iq_cz (G 24) (G 45) 0 0 9)) 46 (iq_cz (G 25) (G 46) 0 0 12)) 44 2 (G 23 2)) 47 P m R) S (a + v)).2) 64 := by
          unfold sf_mf
          try dsimp only
          rw [if_pos rfl]
        rw [e2] at nx
        have cR := iq_cn_nonneg (iq_tb (sf_run n K T M B (sf_x0 (iq_uz (iq_rz (iq_rz G 45 (iq_cz (G 24) (G 45) 0 0 9)) 46 (iq_cz (G 25) (G 46) 0 0 12)) 44 2 (G 23 2)) 47 P m R) S (a + v)).2) 64
        rw [sf_i2a (by omega) (by omega)]
        rw [show ((v : Nat) : Int) + 1 = ((v + 1 : Nat) : Int) by omega]
        exact nx
      · unfold sf_mf
        try dsimp only
        rw [if_neg (by omega)]
    · have e := h.1 j (by omega) (by omega)
      rw [e.1, e.2, sf_uzn _ (by omega), sf_rzn _ (by omega), sf_rzn _ (by omega), sf_uzn _ (by omega), sf_uzn _ (by omega)]
      exact k j hj
    · try dsimp only
      split
      · exact ⟨rfl, rfl, rfl⟩
      · exact hX i
theorem cMean {N : Nat} {xs : Nat → Int32} {Q : iq_T} {g : iq_I} {l : iq_J} {P : Int → Int} {S : Int64} {m : Int} {R : Int → Int} {n a b : Int} {K T M B : Int → Int} (hc : iq_CZ g l 23 24 25 P S m R) (p : sf_PG g n K T M B) (h5 : g 26 5 = 0 ∨ g 26 5 = 1) (hP : g 26 5 = 1 → sf_GP n K T M B) (ha : -2147483648 ≤ a ∧ a ≤ 2147483647) (hb : -2147483648 ≤ b ∧ b ≤ 2147483647) (q1 : (0 ≤ a ∧ a ≤ 9999) ∧ (1 ≤ b ∧ b ≤ 20) ∧ a + b - 1 ≤ 9999 → g 26 5 = 1 → ∀ Xs : Nat → iq_I, (∀ i, (Xs i) 4 = P ∧ (Xs i) 5 = R ∧ (Xs i) 6 0 = m) → ∀ (g' : iq_I) (l' : iq_J), iq_KF g l g' l' → g' 0 0 = 0 → l' 0 1 = (aMean n K T M B Xs S a b).1 → l' 0 2 = (aMean n K T M B Xs S a b).2 → l' 77 2 = l 77 2 → l' 77 3 = l 77 3 → Q (some (iq_i 1)) g' l') (q0 : ¬ (((0 ≤ a ∧ a ≤ 9999) ∧ (1 ≤ b ∧ b ≤ 20) ∧ a + b - 1 ≤ 9999) ∧ g 26 5 = 1) → Q (some (iq_i 0)) (iq_uz g 0 0 (if (0 ≤ a ∧ a ≤ 9999) ∧ (1 ≤ b ∧ b ≤ 20) ∧ a + b - 1 ≤ 9999 then 6 else 1)) l) : iq_P N xs 353 0 [some (iq_r 0), some (iq_i a), some (iq_i b), none, none, none] [] g l Q := by
  have no : ¬ ((0 ≤ a ∧ a ≤ 9999) ∧ (1 ≤ b ∧ b ≤ 20) ∧ a + b - 1 ≤ 9999) → iq_P N xs 28 0 [some (iq_r 0), some (iq_i 1)] [] g l (fun r g1 l2 => ∃ z3, r = some (iq_i z3) ∧ ((z3 = 0 ∨ z3 = 1) ∧ Q (some (iq_i z3)) g1 l2)) := fun c => by
    have z := q0 (fun w => c w.1)
    rw [if_neg c] at z
    exact sp28 ⟨_, rfl, .inl rfl, z⟩
  refine B353_0 _ _ _ _ ⟨by omega, fun c => no (by omega), fun c1 => ⟨by omega, fun c => no (by omega), fun c2 => ⟨by omega, fun c => no (by omega), fun c3 => ⟨by omega, fun c => no (by omega), fun c4 => ⟨by omega, fun c5 => ⟨by omega, fun c6 => ?_, fun c6 => ?_⟩, fun c => no (by omega)⟩⟩⟩⟩⟩
  · have h1 : g 26 5 = 1 := by omega
    have q1 := q1 ⟨⟨c1, c2⟩, ⟨c3, c4⟩, c5⟩ h1
    have main := sp353_p (N := N) (xs := xs) (b := b.toNat) hc p (hP h1) (a := a) (by omega) (by omega) (Q := Q) (fun Xs hX => by rw [show ((b.toNat : Nat) : Int) = b by omega]; exact q1 Xs hX) b.toNat 0 g l (fun _ => sf_x0 g 47 P m R) (by omega) (fun _ _ => ⟨rfl, rfl⟩) (fun _ => ⟨rfl, rfl, rfl⟩)
    rw [show ((b.toNat : Nat) : Int) = b by omega, sf_sum] at main
    exact main
  · have z := q0 (by omega)
    rw [if_pos ⟨⟨c1, c2⟩, ⟨c3, c4⟩, c5⟩] at z
    exact sp28 ⟨_, rfl, .inl rfl, z⟩
/-! the model -/
theorem sp354_p {N : Nat} {xs : Nat → Int32} {Q : iq_T} {g : iq_I} {l : iq_J} (q : ∀ g' : iq_I, (∀ j, ¬ j = 78 → g' j = g j) → (∀ k, 0 ≤ k → k < 92 → g' 78 k = g 78 (2300 + k)) → (∀ k, ¬ (0 ≤ k ∧ k < 92) → g' 78 k = g 78 k) → Q none g' l) (e : Nat) : ∀ (v : Nat) (G : iq_I), v + e = 92 → (∀ j, ¬ j = 78 → G j = g j) → (∀ k : Int, 0 ≤ k → k < v → G 78 k = g 78 (2300 + k)) → (∀ k : Int, ¬ (0 ≤ k ∧ k < v) → G 78 k = g 78 k) → iq_P N xs 354 2 [some (iq_r 77), some (iq_i 2300), some (iq_i v)] [] G l Q := by
  induction e with
  | zero =>
    intro v G hv b1 b2 b3
    exact B354_p2_77 _ _ _ _ ⟨by omega, fun _ => q G b1 (fun k y1 y2 => b2 k y1 (by omega)) (fun k y => b3 k (by omega)), fun h => by omega⟩
  | succ e ih =>
    intro v G hv b1 b2 b3
    refine B354_p2_77 _ _ _ _ ⟨by omega, fun h => by omega, fun _ => ⟨by omega, by omega, ?_⟩⟩
    rw [show ((v : Nat) : Int) + 1 = ((v + 1 : Nat) : Int) by omega, b3 (2300 + v) (by omega)]
    refine ih (v + 1) _ (by omega) (fun j y => by rw [sf_uzn _ y]; exact b1 j y) (fun k y1 y2 => ?_) (fun k y => ?_)
    · by_cases c : k = v
      · rw [c]; simp [iq_uz]
      · rw [iq_uz78 c]; exact b2 k y1 (by omega)
    · rw [iq_uz78 (by omega)]; exact b3 k (by omega)
theorem sp354 {N : Nat} {xs : Nat → Int32} {Q : iq_T} {g : iq_I} {l : iq_J} (q : ∀ g' : iq_I, (∀ j, ¬ j = 78 → g' j = g j) → (∀ k, 0 ≤ k → k < 92 → g' 78 k = g 78 (2300 + k)) → (∀ k, ¬ (0 ≤ k ∧ k < 92) → g' 78 k = g 78 k) → Q none g' l) : iq_P N xs 354 0 [some (iq_r 77), some (iq_i 2300), none] [] g l Q :=
  B354_77 _ _ _ (sp354_p q 92 0 g (by omega) (fun _ _ => rfl) (fun k y1 y2 => by omega) (fun _ _ => rfl))
/-- between two trials -/
def sf_MT (g G : iq_I) : Prop := (∀ j, ¬ j = 77 → ¬ j = 78 → ¬ (85 ≤ j ∧ j ≤ 89) → ¬ (j = 100 ∨ j = 101 ∨ j = 103 ∨ j = 104) → G j = g j) ∧ (∀ k, ¬ (43 ≤ k ∧ k ≤ 46) → ¬ k = 26 → ¬ k = 27 → G 77 k = g 77 k) ∧ (∀ k, k < 1840 → G 78 k = g 78 k) ∧ (∀ k, 0 ≤ k → k < 92 → G 78 (2300 + k) = g 78 k)
theorem sp355_p {N : Nat} {xs : Nat → Int32} {Q : iq_T} {g : iq_I} {l : iq_J} {D : Int → Int} {m : Nat} {P : Int → Int} {S : Int64} {mm : Int} {R : Int → Int} {n a : Int} {K T M B : Int → Int} {b : Nat} {Xs : Nat → iq_I} (hz : iq_ZV P S mm R) (hM : iq_MS g 0 P S mm R) (h10 : g 78 10 = m) (hV : sf_PV D m n K T M B) (hP : sf_GP n K T M B) (hR : ∀ i, 0 ≤ i → i < 360 → g 78 (92 + i) = D i) (hX : ∀ i, (Xs i) 4 = P ∧ (Xs i) 5 = R ∧ (Xs i) 6 0 = mm) (ha : 0 ≤ a ∧ a + b ≤ 10000) (hb : 1 ≤ b ∧ b ≤ 20) (q : ∀ (g' : iq_I) (l' : iq_J), iq_KF g l g' l' → g' 0 0 = g 0 0 → g' 77 1 = 0 → l' 77 2 = (aMean n K T M B Xs S a b).1 → l' 77 3 = (aMean n K T M B Xs S a b).2 → l' 0 1 = l 0 1 → l' 0 2 = l 0 2 → Q (some (iq_i 1)) g' l') (e : Nat) : ∀ (v : Nat) (G : iq_I), v + e = b → sf_MT g G → iq_P N xs 355 71 [some (iq_r 77), some (iq_i a), some (iq_i b), some (iq_l (iq_i2l (sf_sum (sf_mf n K T M B Xs S a) v))), none, some (iq_i v)] [] G l Q := by
  induction e with
  | zero =>
    intro v G hv k
    have vb : v = b := by omega
    subst vb
    have fb := sf_mfb (n := n) (K := K) (T := T) (M := M) (B := B) (Xs := Xs) (S := S) (a := a) (b := v) (by omega)
    rw [show ((v : Int)).toNat = v by omega] at fb
    refine B355_p71_77 _ _ _ _ _ _ ⟨by omega, fun _ => sp303 fb ⟨_, rfl, .inr rfl, q _ _ ?_ ?_ (by simp [iq_uz]) ?_ ?_ (by simp [iq_uz]) (by simp [iq_uz])⟩, fun h => by omega⟩
    · refine ⟨iq_co_of (fun j i x => ?_), iq_co_of (fun j i x => ?_)⟩
      · have h1 : ¬ (j = 77 ∧ i = 1) := fun z => by
          obtain ⟨rfl, rfl⟩ := z
          simp [iq_sx] at x
        unfold iq_uz
        rw [if_neg h1]
        by_cases h77 : j = 77
        · subst h77
          refine k.2.1 i (fun e => ?_) (fun e => by subst e; simp [iq_sx] at x) (fun e => by subst e; simp [iq_sx] at x)
          have : i = 43 ∨ i = 44 ∨ i = 45 ∨ i = 46 := by omega
          rcases this with e | e | e | e <;> subst e <;> simp [iq_sx] at x
        · by_cases h78 : j = 78
          · subst h78
            refine k.2.2.1 i ?_
            simp [iq_sx] at x
            omega
          · rw [k.1 j h77 h78 (fun e => by
              have : j = 85 ∨ j = 86 ∨ j = 87 ∨ j = 88 ∨ j = 89 := by omega
              rcases this with e | e | e | e | e <;> subst e <;> simp [iq_sx] at x) (fun e => by
              rcases e with e | e | e | e <;> subst e <;> simp [iq_sx] at x)]
      · have h2 : ¬ (j = 77 ∧ i = 2) := fun z => by
          obtain ⟨rfl, rfl⟩ := z
          simp [iq_sx] at x
        have h3 : ¬ (j = 77 ∧ i = 3) := fun z => by
          obtain ⟨rfl, rfl⟩ := z
          simp [iq_sx] at x
        unfold iq_uz
        rw [if_neg h3, if_neg h2]
    · rw [← k.1 0 (by decide) (by decide) (by decide) (by decide)]; simp [iq_uz]
    · unfold aMean sf_tl
      rw [show ((v : Int)).toNat = v by omega]
      simp [iq_uz]
    · unfold aMean sf_tl
      rw [show ((v : Int)).toNat = v by omega]
      simp [iq_uz]
  | succ e ih =>
    intro v G hv k
    have sR := sf_sumR (sf_mfR n K T M B Xs S a) v
    obtain ⟨x4, x5, x6⟩ := hX v
    have GM : iq_MS G 0 P S mm R := by
      have m12 := hz.2.2.1
      refine .mk0 (fun i y1 y2 => ?_) (fun t y1 y2 => ?_) ?_ (fun i y1 y2 => ?_)
      · rw [k.2.2.1 i (by omega)]; exact hM.p i y1 y2
      · rw [k.2.2.1 _ (by omega)]; exact hM.s t y1 y2
      · rw [k.2.2.1 _ (by omega)]; exact hM.n
      · rw [k.2.2.1 _ (by omega)]; exact hM.r i y1 y2
    refine B355_p71_77 _ _ _ _ _ _ ⟨by omega, fun h => by omega, fun _ => ?_⟩
    refine sp345 (X := Xs v) (S := S) hV hP (fun i y1 y2 => by rw [k.2.2.1 _ (by omega)]; exact hR i y1 y2) (by rw [k.2.2.1 10 (by omega)]; exact h10) (by rw [x4, x5, x6]; exact hz) (by rw [x4, x5, x6]; exact GM) (by omega) (fun g1 j => ⟨rfl, ?_⟩)
    obtain ⟨j1, j2, j3⟩ := j
    refine sp144m j2.2.s j2.1.b60 ⟨_, rfl, sp354 (fun g2 a1 a2 a3 => ⟨rfl, ?_⟩)⟩
    have nx := ih (v + 1) g2 (by omega) ⟨fun j y1 y2 y3 y4 => by rw [a1 j y2, j1.1 j y1 y2 y3 y4]; exact k.1 j y1 y2 y3 y4, fun i y1 y2 y3 => by rw [a1 77 (by decide), j1.2.1 i y1 y2 y3]; exact k.2.1 i y1 y2 y3, fun i y => ?_, fun i y1 y2 => ?_⟩
    · rw [sf_sum] at nx
      have cR := iq_cn_nonneg (iq_tb (sf_run n K T M B (Xs v) S (a + v)).2) 64
      rw [sf_i2a (by omega) (by omega), show ((v : Nat) : Int) + 1 = ((v + 1 : Nat) : Int) by omega]
      exact nx
    · by_cases c : 0 ≤ i ∧ i < 92
      · rw [a2 i c.1 c.2, j1.2.2 _ (by omega)]; exact k.2.2.2 i c.1 c.2
      · rw [a3 i c, j1.2.2 i (by omega)]; exact k.2.2.1 i y
    · rw [a3 _ (by omega), j1.2.2 _ (by omega)]; exact k.2.2.2 i y1 y2
theorem mMean {N : Nat} {xs : Nat → Int32} {Q : iq_T} {g : iq_I} {l : iq_J} {D : Int → Int} {m : Nat} {P : Int → Int} {S : Int64} {mm : Int} {R : Int → Int} {n a b : Int} {K T M B : Int → Int} {Xs : Nat → iq_I} (hz : iq_ZV P S mm R) (hM : iq_MS g 0 P S mm R) (hs : ¬ g 78 10 = -1 → g 78 10 = m ∧ sf_PV D m n K T M B ∧ sf_GP n K T M B ∧ (∀ i, 0 ≤ i → i < 360 → g 78 (92 + i) = D i)) (hX : ∀ i, (Xs i) 4 = P ∧ (Xs i) 5 = R ∧ (Xs i) 6 0 = mm) (ha : -2147483648 ≤ a ∧ a ≤ 2147483647) (hb : -2147483648 ≤ b ∧ b ≤ 2147483647) (q1 : (0 ≤ a ∧ a ≤ 9999) ∧ (1 ≤ b ∧ b ≤ 20) ∧ a + b - 1 ≤ 9999 → ¬ g 78 10 = -1 → ∀ (g' : iq_I) (l' : iq_J), iq_KF g l g' l' → g' 0 0 = g 0 0 → g' 77 1 = 0 → l' 77 2 = (aMean n K T M B Xs S a b).1 → l' 77 3 = (aMean n K T M B Xs S a b).2 → l' 0 1 = l 0 1 → l' 0 2 = l 0 2 → Q (some (iq_i 1)) g' l') (q0 : ¬ (((0 ≤ a ∧ a ≤ 9999) ∧ (1 ≤ b ∧ b ≤ 20) ∧ a + b - 1 ≤ 9999) ∧ ¬ g 78 10 = -1) → Q (some (iq_i 0)) (iq_uz g 77 1 (if (0 ≤ a ∧ a ≤ 9999) ∧ (1 ≤ b ∧ b ≤ 20) ∧ a + b - 1 ≤ 9999 then 6 else 1)) l) : iq_P N xs 355 0 [some (iq_r 77), some (iq_i a), some (iq_i b), none, none, none] [] g l Q := by
  have i0 : (0 : Int64).toInt = 0 := by decide
  have i1 : (1 : Int64).toInt = 1 := by decide
  have i9 : (Int64.ofNat 9999).toInt = 9999 := by decide
  have i20 : (Int64.ofNat 20).toInt = 20 := by decide
  have no : ¬ ((0 ≤ a ∧ a ≤ 9999) ∧ (1 ≤ b ∧ b ≤ 20) ∧ a + b - 1 ≤ 9999) → iq_P N xs 33 0 [some (iq_r 77), some (iq_i 1)] [] g l (fun r g1 l2 => ∃ z3, r = some (iq_i z3) ∧ ((z3 = 0 ∨ z3 = 1) ∧ Q (some (iq_i z3)) g1 l2)) := fun c => by
    have z := q0 (fun w => c w.1)
    rw [if_neg c] at z
    exact sp33 (by omega) (fun h => by omega) (fun _ => ⟨_, rfl, .inl rfl, z⟩)
  refine B355_77 _ _ _ _ (sp149 (fun c1 c2 => ⟨_, rfl, by omega, fun h => by omega, fun _ => ?_⟩) (fun c => ⟨_, rfl, by omega, fun _ => no ?_, fun h => by omega⟩))
  · rw [iq_i2lv ha.1 ha.2, i0] at c1
    rw [iq_i2lv ha.1 ha.2, i9] at c2
    refine sp149 (fun c3 c4 => ⟨_, rfl, by omega, fun h => by omega, fun _ => ?_⟩) (fun c => ⟨_, rfl, by omega, fun _ => no ?_, fun h => by omega⟩)
    · rw [iq_i2lv hb.1 hb.2, i1] at c3
      rw [iq_i2lv hb.1 hb.2, i20] at c4
      refine ⟨by omega, fun c5 => ?_, fun c5 => no (by omega)⟩
      by_cases c6 : g 78 10 = -1
      · refine ⟨by omega, fun h => absurd c6 h, fun _ => ?_⟩
        have z := q0 (fun w => w.2 c6)
        rw [if_pos ⟨⟨c1, c2⟩, ⟨c3, c4⟩, c5⟩] at z
        exact sp33 (by omega) (fun h => by omega) (fun _ => ⟨_, rfl, .inl rfl, z⟩)
      · obtain ⟨s1, s2, s3, s4⟩ := hs c6
        have m60 := s2.1
        refine ⟨by omega, fun _ => sp191 (fun g1 a1 a2 => ⟨rfl, ?_⟩), fun h => absurd h c6⟩
        have main := sp355_p (N := N) (xs := xs) (l := l) (Q := Q) (b := b.toNat) (a := a) hz hM s1 s2 s3 s4 hX (by omega) (by omega) (by rw [show ((b.toNat : Nat) : Int) = b by omega]; exact q1 ⟨⟨c1, c2⟩, ⟨c3, c4⟩, c5⟩ c6) b.toNat 0 g1 (by omega) ⟨fun j y1 y2 _ _ => a1.1 j y2, fun i _ _ _ => by rw [a1.1 77 (by decide)], fun i y => ?_, fun i y1 y2 => (a2 i y1 y2).2⟩
        · rw [show ((b.toNat : Nat) : Int) = b by omega, sf_sum] at main
          exact main
        · by_cases c : 0 ≤ i ∧ i < 92
          · exact (a2 i c.1 c.2).1
          · exact a1.2 i (by omega) y
    · rw [iq_i2lv hb.1 hb.2, i1, i20] at c
      omega
  · rw [iq_i2lv ha.1 ha.2, i0, i9] at c
    omega
