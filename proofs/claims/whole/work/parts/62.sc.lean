/-! What is done: press, lift, sift. -/
/-- a scale as plain values: parts, what sounds, how many pressed, which -/
def iq_ZV (P : Int → Int) (S : Int64) (m : Int) (R : Int → Int) : Prop := iq_pb P ∧ (∀ t, iq_tb S t = true → t < P 1) ∧ (0 ≤ m ∧ m ≤ 12) ∧ (∀ k, 0 ≤ k → k < m → 0 ≤ R k ∧ R k < 60)
/-- the class holds it -/
def iq_CZ (g : iq_I) (l : iq_J) (s p r : Nat) (P : Int → Int) (S : Int64) (m : Int) (R : Int → Int) : Prop := iq_ZV P S m R ∧ (∀ k, 0 ≤ k → k < 9 → g p k = P k) ∧ l s 3 = S ∧ (∀ t, iq_tb (l s 4) t = iq_f P t) ∧ g s 2 = m ∧ (∀ k, 0 ≤ k → k < m → g r k = R k)
/-- the model holds it -/
def iq_MS (g : iq_I) (off : Int) (P : Int → Int) (S : Int64) (m : Int) (R : Int → Int) : Prop := (∀ k, 0 ≤ k → k < 9 → g 78 (off + k) = P k) ∧ (∀ t, 0 ≤ t → t < 60 → g 78 (off + 20 + t) = if iq_tb S t = true then 1 else 0) ∧ g 78 (off + 9) = m ∧ (∀ k, 0 ≤ k → k < m → g 78 (off + 80 + k) = R k)
theorem iq_SR.cz {g : iq_I} {l : iq_J} {s p r : Nat} {off : Int} (h : iq_SR g l s p r off) : iq_CZ g l s p r (g p) (l s 3) (g s 2) (g r) := by
  obtain ⟨s1, s2, s3, s4, s5, s6, s7⟩ := h
  exact ⟨⟨s1, s4, ⟨s6.1, s6.2.1⟩, fun k a b => (s7 k a b).2⟩, fun _ _ _ => rfl, rfl, s3, rfl, fun _ _ _ => rfl⟩
theorem iq_SR.ms {g : iq_I} {l : iq_J} {s p r : Nat} {off : Int} (h : iq_SR g l s p r off) : iq_MS g off (g p) (l s 3) (g s 2) (g r) := by
  obtain ⟨s1, s2, s3, s4, s5, s6, s7⟩ := h
  exact ⟨s2, s5, s6.2.2, fun k a b => (s7 k a b).1⟩
theorem iq_SR.of {g : iq_I} {l : iq_J} {s p r : Nat} {off : Int} {P : Int → Int} {S : Int64} {m : Int} {R : Int → Int} (c : iq_CZ g l s p r P S m R) (h : iq_MS g off P S m R) : iq_SR g l s p r off := by
  obtain ⟨⟨v1, v2, v3, v4⟩, c1, c2, c3, c4, c5⟩ := c
  obtain ⟨m1, m2, m3, m4⟩ := h
  refine ⟨iq_pb_congr c1 v1, fun k a b => by rw [m1 k a b, c1 k a b], fun t => by rw [c3 t, iq_f_congr c1], fun t ht => by rw [c1 1 (by omega) (by omega)]; rw [c2] at ht; exact v2 t ht, fun t a b => by rw [m2 t a b, c2], ⟨by omega, by omega, by omega⟩, fun k a b => ?_⟩
  rw [c4] at b
  rw [m4 k a b, c5 k a b]
  exact ⟨rfl, v4 k a b⟩
/-- nothing kept has changed, but for a mask -/
def iq_KM (M : Nat → Int → Bool) (g : iq_I) (l : iq_J) (g' : iq_I) (l' : iq_J) : Prop := (∀ j k, iq_sx j k = false → M j k = false → g' j k = g j k ∧ l' j k = l j k) ∧ l' 0 1 = l 0 1 ∧ l' 0 2 = l 0 2 ∧ l' 77 2 = l 77 2 ∧ l' 77 3 = l 77 3
def iq_Mc : Nat → Int → Bool := fun j _ => decide (23 ≤ j) && decide (j ≤ 25)
def iq_Mm : Nat → Int → Bool := fun j k => decide (j = 78) && decide (0 ≤ k) && decide (k < 92) && !decide (k = 10)
theorem iq_KK.km {g g' : iq_I} {l l' : iq_J} (h : iq_KK g l g' l') (M : Nat → Int → Bool) : iq_KM M g l g' l' := ⟨fun _ _ hb _ => ⟨iq_co_at h.1 hb, iq_co_at h.2.1 hb⟩, h.2.2⟩
theorem iq_KM.trans {M : Nat → Int → Bool} {g g1 g2 : iq_I} {l l1 l2 : iq_J} (a : iq_KM M g l g1 l1) (b : iq_KM M g1 l1 g2 l2) : iq_KM M g l g2 l2 :=
  ⟨fun j k x y => ⟨(b.1 j k x y).1.trans (a.1 j k x y).1, (b.1 j k x y).2.trans (a.1 j k x y).2⟩, b.2.1.trans a.2.1, b.2.2.1.trans a.2.2.1, b.2.2.2.1.trans a.2.2.2.1, b.2.2.2.2.trans a.2.2.2.2⟩
theorem iq_KM.ofg {M : Nat → Int → Bool} {g g1 : iq_I} {l : iq_J} (e : ∀ j k, iq_sx j k = false → M j k = false → g1 j k = g j k) : iq_KM M g l g1 l := ⟨fun j k x y => ⟨e j k x y, rfl⟩, rfl, rfl, rfl, rfl⟩
theorem iq_KM.uz {M : Nat → Int → Bool} {g g1 : iq_I} {l l1 : iq_J} (a : iq_KM M g l g1 l1) {j : Nat} {i v : Int} (h : iq_sx j i = true ∨ M j i = true) : iq_KM M g l (iq_uz g1 j i v) l1 := by
  refine ⟨fun b k x y => ⟨?_, (a.1 b k x y).2⟩, a.2⟩
  rw [← (a.1 b k x y).1]
  unfold iq_uz
  rw [if_neg]
  rintro ⟨rfl, rfl⟩
  rcases h with h | h
  · rw [h] at x; cases x
  · rw [h] at y; cases y
theorem iq_KM.ul {M : Nat → Int → Bool} {g g1 : iq_I} {l l1 : iq_J} (a : iq_KM M g l g1 l1) {j : Nat} {i : Int} {v : Int64} (h : M j i = true) (h0 : ¬ j = 0) (h7 : ¬ j = 77) : iq_KM M g l g1 (iq_uz l1 j i v) := by
  have e0 : ∀ i' : Int, (iq_uz l1 j i v) 0 i' = l1 0 i' := fun i' => by
    have : ¬ (0 = j ∧ i' = i) := fun e => h0 e.1.symm
    unfold iq_uz; rw [if_neg this]
  have e7 : ∀ i' : Int, (iq_uz l1 j i v) 77 i' = l1 77 i' := fun i' => by
    have : ¬ (77 = j ∧ i' = i) := fun e => h7 e.1.symm
    unfold iq_uz; rw [if_neg this]
  refine ⟨fun b k x y => ⟨(a.1 b k x y).1, ?_⟩, by rw [e0]; exact a.2.1, by rw [e0]; exact a.2.2.1, by rw [e7]; exact a.2.2.2.1, by rw [e7]; exact a.2.2.2.2⟩
  rw [← (a.1 b k x y).2]
  unfold iq_uz
  rw [if_neg]
  rintro ⟨rfl, rfl⟩
  rw [h] at y; cases y
theorem iq_MS.keep {g g' : iq_I} {l l' : iq_J} {off : Int} {P : Int → Int} {S : Int64} {m : Int} {R : Int → Int} (h : iq_MS g off P S m R) (k : iq_KM iq_Mc g l g' l') (ho : 0 ≤ off ∧ off ≤ 1700) (hm : m ≤ 12) : iq_MS g' off P S m R := by
  have e : ∀ i : Int, i < 1840 → g' 78 i = g 78 i := fun i hi => (k.1 78 i (by simp [iq_sx]; omega) (by simp [iq_Mc])).1
  obtain ⟨m1, m2, m3, m4⟩ := h
  refine ⟨fun k a b => by rw [e _ (by omega)]; exact m1 k a b, fun t a b => by rw [e _ (by omega)]; exact m2 t a b, by rw [e _ (by omega)]; exact m3, fun k a b => by rw [e _ (by omega)]; exact m4 k a b⟩
theorem iq_CZ.keep {g g' : iq_I} {l l' : iq_J} {P : Int → Int} {S : Int64} {m : Int} {R : Int → Int} (h : iq_CZ g l 23 24 25 P S m R) (k : iq_KM iq_Mm g l g' l') : iq_CZ g' l' 23 24 25 P S m R := by
  have e : ∀ (j : Nat) (i : Int), j = 23 ∨ j = 24 ∨ j = 25 → g' j i = g j i ∧ l' j i = l j i := fun j i hj => k.1 j i (by rcases hj with h | h | h <;> subst h <;> simp [iq_sx]) (by rcases hj with h | h | h <;> subst h <;> simp [iq_Mm])
  obtain ⟨c0, c1, c2, c3, c4, c5⟩ := h
  refine ⟨c0, fun k a b => by rw [(e 24 k (by omega)).1]; exact c1 k a b, by rw [(e 23 3 (by omega)).2]; exact c2, fun t => by rw [(e 23 4 (by omega)).2]; exact c3 t, by rw [(e 23 2 (by omega)).1]; exact c4, fun k a b => by rw [(e 25 k (by omega)).1]; exact c5 k a b⟩
def sf_sh (R : Int → Int) (t : Int) : Int → Int := fun k => if k = 0 then t else R (k - 1)
theorem iq_ZV.press {P : Int → Int} {S : Int64} {m : Int} {R : Int → Int} (h : iq_ZV P S m R) {t : Int} (ht : 0 ≤ t ∧ t < P 1) : iq_ZV P (S ||| iq_of t) (min (m + 1) 12) (sf_sh R t) := by
  obtain ⟨v1, v2, v3, v4⟩ := h
  have hp1 := v1.2.1
  refine ⟨v1, fun u hu => ?_, by omega, fun k a b => ?_⟩
  · rw [iq_tb_or, Bool.or_eq_true, iq_tbof] at hu
    rcases hu with hu | hu
    · exact v2 u hu
    · simp only [Bool.and_eq_true, decide_eq_true_eq] at hu
      omega
  · unfold sf_sh
    split
    · omega
    · exact v4 (k - 1) (by omega) (by omega)
/-! the class -/
theorem sp178_23 {N : Nat} {xs : Nat → Int32} {Q : iq_T} {g : iq_I} {l : iq_J} {P : Int → Int} {S : Int64} {m : Int} {R : Int → Int} {t : Int} (hc : iq_CZ g l 23 24 25 P S m R) (ht : -2147483648 ≤ t ∧ t ≤ 2147483647) (q1 : 0 ≤ t ∧ t < P 1 → iq_tb S t = false → iq_CZ (iq_uz (iq_uz (iq_rz g 25 (iq_cz (g 25) (g 25) 0 1 11)) 25 0 t) 23 2 (min (m + 1) 12)) (iq_uz l 23 3 (S ||| iq_of t)) 23 24 25 P (S ||| iq_of t) (min (m + 1) 12) (sf_sh R t) → Q (some (iq_i 1)) (iq_uz (iq_uz (iq_rz g 25 (iq_cz (g 25) (g 25) 0 1 11)) 25 0 t) 23 2 (min (m + 1) 12)) (iq_uz l 23 3 (S ||| iq_of t))) (q0 : ¬ ((0 ≤ t ∧ t < P 1) ∧ iq_tb S t = false) → Q (some (iq_i 0)) g l) : iq_P N xs 178 0 [some (iq_r 23), some (iq_i t)] [] g l Q := by
  obtain ⟨c0, c1, rfl, c3, c4, c5⟩ := hc
  have hp1 := c0.1.2.1
  have hm := c0.2.2.1
  have e1 := c1 1 (by omega) (by omega)
  refine B178_23 _ _ _ (sp77_23 ht (by omega) (fun a b => ⟨_, rfl, by omega, fun h => by omega, fun _ => ?_⟩) (fun a => ⟨_, rfl, by omega, fun _ => q0 (by rw [e1] at a; exact fun z => a z.1), fun h => by omega⟩))
  rw [e1] at b
  refine sp74 ht (fun c => ⟨_, rfl, by omega, fun h => by omega, fun _ => q0 (fun z => by rw [z.2] at c; cases c)⟩) (fun c => ⟨_, rfl, by omega, fun _ => sp6 ht ⟨_, rfl, by omega, ?_⟩, fun h => by omega⟩)
  rw [c4]
  refine sp95 (by omega) (by omega) ⟨_, rfl, q1 ⟨a, b⟩ c ⟨c0.press ⟨a, b⟩, fun k x y => ?_, by simp [iq_uz], fun u => ?_, by simp [iq_uz], fun k x y => ?_⟩⟩
  · rw [← c1 k x y]; simp [iq_uz, iq_rz]
  · rw [← c3 u]; simp [iq_uz]
  · unfold sf_sh
    by_cases z : k = 0
    · rw [if_pos z, z]; simp [iq_uz]
    · rw [if_neg z, ← c5 (k - 1) (by omega) (by omega)]
      have w : (1 : Int) ≤ k ∧ k < 12 := by omega
      simp [iq_uz, iq_rz, iq_cz, z, w]
theorem sp182_23 {N : Nat} {xs : Nat → Int32} {Q : iq_T} {g : iq_I} {l : iq_J} {P : Int → Int} {S : Int64} {m : Int} {R : Int → Int} {t : Int} (hc : iq_CZ g l 23 24 25 P S m R) (ht : -2147483648 ≤ t ∧ t ≤ 2147483647) (q1 : iq_tb S t = true → iq_CZ g (iq_uz l 23 3 (S &&& (iq_of t ^^^ Int64.ofNat 18446744073709551615))) 23 24 25 P (S &&& (iq_of t ^^^ Int64.ofNat 18446744073709551615)) m R → Q (some (iq_i 1)) g (iq_uz l 23 3 (S &&& (iq_of t ^^^ Int64.ofNat 18446744073709551615)))) (q0 : iq_tb S t = false → Q (some (iq_i 0)) g l) : iq_P N xs 182 0 [some (iq_r 23), some (iq_i t)] [] g l Q := by
  obtain ⟨c0, c1, rfl, c3, c4, c5⟩ := hc
  refine B182_23 _ _ _ ?_
  refine sp74 ht (fun c => ⟨_, rfl, by omega, fun _ => sp6 ht ⟨_, rfl, q1 c ⟨⟨c0.1, fun u hu => ?_, c0.2.2⟩, c1, by simp [iq_uz], fun u => ?_, c4, c5⟩⟩, fun h => by omega⟩) (fun c => ⟨_, rfl, by omega, fun h => by omega, fun _ => q0 c⟩)
  · rw [iq_tb_and, Bool.and_eq_true] at hu
    exact c0.2.1 u hu.1
  · rw [← c3 u]; simp [iq_uz]
theorem sp178_44 {N : Nat} {xs : Nat → Int32} {Q : iq_T} {g : iq_I} {l : iq_J} {P : Int → Int} {S : Int64} {m : Int} {R : Int → Int} {t : Int} (hc : iq_CZ g l 44 45 46 P S m R) (ht : -2147483648 ≤ t ∧ t ≤ 2147483647) (q1 : 0 ≤ t ∧ t < P 1 → iq_tb S t = false → iq_CZ (iq_uz (iq_uz (iq_rz g 46 (iq_cz (g 46) (g 46) 0 1 11)) 46 0 t) 44 2 (min (m + 1) 12)) (iq_uz l 44 3 (S ||| iq_of t)) 44 45 46 P (S ||| iq_of t) (min (m + 1) 12) (sf_sh R t) → Q (some (iq_i 1)) (iq_uz (iq_uz (iq_rz g 46 (iq_cz (g 46) (g 46) 0 1 11)) 46 0 t) 44 2 (min (m + 1) 12)) (iq_uz l 44 3 (S ||| iq_of t))) (q0 : ¬ ((0 ≤ t ∧ t < P 1) ∧ iq_tb S t = false) → Q (some (iq_i 0)) g l) : iq_P N xs 178 0 [some (iq_r 44), some (iq_i t)] [] g l Q := by
  obtain ⟨c0, c1, rfl, c3, c4, c5⟩ := hc
  have hp1 := c0.1.2.1
  have hm := c0.2.2.1
  have e1 := c1 1 (by omega) (by omega)
  refine B178_44 _ _ _ (sp77_44 ht (by omega) (fun a b => ⟨_, rfl, by omega, fun h => by omega, fun _ => ?_⟩) (fun a => ⟨_, rfl, by omega, fun _ => q0 (by rw [e1] at a; exact fun z => a z.1), fun h => by omega⟩))
  rw [e1] at b
  refine sp74 ht (fun c => ⟨_, rfl, by omega, fun h => by omega, fun _ => q0 (fun z => by rw [z.2] at c; cases c)⟩) (fun c => ⟨_, rfl, by omega, fun _ => sp6 ht ⟨_, rfl, by omega, ?_⟩, fun h => by omega⟩)
  rw [c4]
  refine sp95 (by omega) (by omega) ⟨_, rfl, q1 ⟨a, b⟩ c ⟨c0.press ⟨a, b⟩, fun k x y => ?_, by simp [iq_uz], fun u => ?_, by simp [iq_uz], fun k x y => ?_⟩⟩
  · rw [← c1 k x y]; simp [iq_uz, iq_rz]
  · rw [← c3 u]; simp [iq_uz]
  · unfold sf_sh
    by_cases z : k = 0
    · rw [if_pos z, z]; simp [iq_uz]
    · rw [if_neg z, ← c5 (k - 1) (by omega) (by omega)]
      have w : (1 : Int) ≤ k ∧ k < 12 := by omega
      simp [iq_uz, iq_rz, iq_cz, z, w]
theorem sp182_44 {N : Nat} {xs : Nat → Int32} {Q : iq_T} {g : iq_I} {l : iq_J} {P : Int → Int} {S : Int64} {m : Int} {R : Int → Int} {t : Int} (hc : iq_CZ g l 44 45 46 P S m R) (ht : -2147483648 ≤ t ∧ t ≤ 2147483647) (q1 : iq_tb S t = true → iq_CZ g (iq_uz l 44 3 (S &&& (iq_of t ^^^ Int64.ofNat 18446744073709551615))) 44 45 46 P (S &&& (iq_of t ^^^ Int64.ofNat 18446744073709551615)) m R → Q (some (iq_i 1)) g (iq_uz l 44 3 (S &&& (iq_of t ^^^ Int64.ofNat 18446744073709551615)))) (q0 : iq_tb S t = false → Q (some (iq_i 0)) g l) : iq_P N xs 182 0 [some (iq_r 44), some (iq_i t)] [] g l Q := by
  obtain ⟨c0, c1, rfl, c3, c4, c5⟩ := hc
  refine B182_44 _ _ _ ?_
  refine sp74 ht (fun c => ⟨_, rfl, by omega, fun _ => sp6 ht ⟨_, rfl, q1 c ⟨⟨c0.1, fun u hu => ?_, c0.2.2⟩, c1, by simp [iq_uz], fun u => ?_, c4, c5⟩⟩, fun h => by omega⟩) (fun c => ⟨_, rfl, by omega, fun h => by omega, fun _ => q0 c⟩)
  · rw [iq_tb_and, Bool.and_eq_true] at hu
    exact c0.2.1 u hu.1
  · rw [← c3 u]; simp [iq_uz]
theorem iq_Mc2 {j : Nat} {k : Int} (h : j = 23 ∨ j = 24 ∨ j = 25) : iq_Mc j k = true := by
  rcases h with h | h | h <;> subst h <;> simp [iq_Mc]
theorem cPress {N : Nat} {xs : Nat → Int32} {Q : iq_T} {g : iq_I} {l : iq_J} {P : Int → Int} {S : Int64} {m : Int} {R : Int → Int} {t : Int} (hc : iq_CZ g l 23 24 25 P S m R) (ht : -2147483648 ≤ t ∧ t ≤ 2147483647) (q1 : (0 ≤ t ∧ t < P 1) ∧ iq_tb S t = false → ∀ (g' : iq_I) (l' : iq_J), iq_KM iq_Mc g l g' l' → iq_CZ g' l' 23 24 25 P (S ||| iq_of t) (min (m + 1) 12) (sf_sh R t) → g' 0 0 = 0 → Q (some (iq_i (iq_cn (iq_tb (S ||| iq_of t)) 64))) g' l') (q0 : ¬ ((0 ≤ t ∧ t < P 1) ∧ iq_tb S t = false) → ∀ (g' : iq_I) (l' : iq_J), iq_KK g l g' l' → g' 0 0 = (if 0 ≤ t ∧ t < P 1 then 7 else 1) → Q (some (iq_i (-1))) g' l') : iq_P N xs 179 0 [some (iq_r 0), some (iq_i t)] [] g l Q := by
  have hp1 := hc.1.1.2.1
  have e1 := hc.2.1 1 (by omega) (by omega)
  refine B179_0 _ _ _ (sp77_23 ht (by omega) (fun a b => ⟨_, rfl, by omega, fun _ => ?_, fun h => by omega⟩) (fun a => ⟨_, rfl, by omega, fun h => by omega, fun _ => sp44 ⟨_, rfl, ?_⟩⟩))
  · rw [e1] at b
    refine sp178_23 hc ht (fun x y z => ⟨_, rfl, by omega, fun h => by omega, fun _ => sp88 ⟨_, rfl, sp90 ⟨_, rfl, ?_⟩⟩⟩) (fun x => ⟨_, rfl, by omega, fun _ => sp44 ⟨_, rfl, ?_⟩, fun h => by omega⟩)
    · rw [z.2.2.1]
      refine q1 ⟨x, y⟩ _ _ ((((iq_KM.ul (M := iq_Mc) (.uz (.uz (.ofg (fun j k u v => ?_)) (.inr (iq_Mc2 (by omega)))) (.inr (iq_Mc2 (by omega)))) (iq_Mc2 (by omega)) (by decide) (by decide)))).uz (.inl iq_sx00)) ⟨z.1, fun k u v => ?_, z.2.2.1, z.2.2.2.1, ?_, fun k u v => ?_⟩ (by simp [iq_uz])
      · unfold iq_rz
        rw [if_neg (fun e => by rw [e] at v; simp [iq_Mc] at v)]
      · rw [← z.2.1 k u v]; simp [iq_uz, iq_rz]
      · rw [← z.2.2.2.2.1]; simp [iq_uz, iq_rz]
      · rw [← z.2.2.2.2.2 k u v]; simp [iq_uz, iq_rz]
    · refine q0 x _ _ ((iq_KK.refl _ _).uz iq_sx00) ?_
      rw [if_pos ⟨a, b⟩]; simp [iq_uz]
  · rw [e1] at a
    refine q0 (fun z => a z.1) _ _ ((iq_KK.refl _ _).uz iq_sx00) ?_
    rw [if_neg a]; simp [iq_uz]
theorem cLift {N : Nat} {xs : Nat → Int32} {Q : iq_T} {g : iq_I} {l : iq_J} {P : Int → Int} {S : Int64} {m : Int} {R : Int → Int} {t : Int} (hc : iq_CZ g l 23 24 25 P S m R) (ht : -2147483648 ≤ t ∧ t ≤ 2147483647) (q1 : (0 ≤ t ∧ t < P 1) ∧ iq_tb S t = true → ∀ (g' : iq_I) (l' : iq_J), iq_KM iq_Mc g l g' l' → iq_CZ g' l' 23 24 25 P (S &&& (iq_of t ^^^ Int64.ofNat 18446744073709551615)) m R → g' 0 0 = 0 → Q (some (iq_i (iq_cn (iq_tb (S &&& (iq_of t ^^^ Int64.ofNat 18446744073709551615))) 64))) g' l') (q0 : ¬ ((0 ≤ t ∧ t < P 1) ∧ iq_tb S t = true) → ∀ (g' : iq_I) (l' : iq_J), iq_KK g l g' l' → g' 0 0 = (if 0 ≤ t ∧ t < P 1 then 7 else 1) → Q (some (iq_i (-1))) g' l') : iq_P N xs 183 0 [some (iq_r 0), some (iq_i t)] [] g l Q := by
  have hp1 := hc.1.1.2.1
  have e1 := hc.2.1 1 (by omega) (by omega)
  refine B183_0 _ _ _ (sp77_23 ht (by omega) (fun a b => ⟨_, rfl, by omega, fun _ => ?_, fun h => by omega⟩) (fun a => ⟨_, rfl, by omega, fun h => by omega, fun _ => sp44 ⟨_, rfl, ?_⟩⟩))
  · rw [e1] at b
    refine sp182_23 hc ht (fun y z => ⟨_, rfl, by omega, fun h => by omega, fun _ => sp88 ⟨_, rfl, sp90 ⟨_, rfl, ?_⟩⟩⟩) (fun x => ⟨_, rfl, by omega, fun _ => sp44 ⟨_, rfl, ?_⟩, fun h => by omega⟩)
    · rw [z.2.2.1]
      refine q1 ⟨⟨a, b⟩, y⟩ _ _ (((((iq_KK.refl g l).km iq_Mc).ul (iq_Mc2 (by omega)) (by decide) (by decide))).uz (.inl iq_sx00)) ⟨z.1, fun k u v => ?_, z.2.2.1, z.2.2.2.1, ?_, fun k u v => ?_⟩ (by simp [iq_uz])
      · rw [← z.2.1 k u v]; simp [iq_uz]
      · rw [← z.2.2.2.2.1]; simp [iq_uz]
      · rw [← z.2.2.2.2.2 k u v]; simp [iq_uz]
    · refine q0 (fun z => by rw [z.2] at x; cases x) _ _ ((iq_KK.refl _ _).uz iq_sx00) ?_
      rw [if_pos ⟨a, b⟩]; simp [iq_uz]
  · rw [e1] at a
    refine q0 (fun z => a z.1) _ _ ((iq_KK.refl _ _).uz iq_sx00) ?_
    rw [if_neg a]; simp [iq_uz]
