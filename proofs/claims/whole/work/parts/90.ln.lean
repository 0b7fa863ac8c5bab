/-! Studies lived, in the model: what its cells hold of X and S. -/
def sf_MK (g0 g : iq_I) : Prop := (∀ j, ¬ j = 77 → ¬ j = 78 → ¬ (85 ≤ j ∧ j ≤ 89) → ¬ (j = 100 ∨ j = 101 ∨ j = 103 ∨ j = 104) → g j = g0 j) ∧ (∀ k, ¬ (43 ≤ k ∧ k ≤ 46) → ¬ k = 26 → ¬ k = 27 → g 77 k = g0 77 k) ∧ (∀ k, ¬ ((0 ≤ k ∧ k < 92) ∧ ¬ k = 10) → g 78 k = g0 78 k)
theorem sf_MK.refl (g : iq_I) : sf_MK g g := ⟨fun _ _ _ _ _ => rfl, fun _ _ _ _ => rfl, fun _ _ => rfl⟩
theorem sf_MK.uz {g0 g : iq_I} (h : sf_MK g0 g) {j : Nat} {k v : Int} (hj : (85 ≤ j ∧ j ≤ 89) ∨ (j = 100 ∨ j = 101 ∨ j = 103 ∨ j = 104) ∨ (j = 77 ∧ ((43 ≤ k ∧ k ≤ 46) ∨ k = 26 ∨ k = 27)) ∨ (j = 78 ∧ (0 ≤ k ∧ k < 92) ∧ ¬ k = 10)) : sf_MK g0 (iq_uz g j k v) := by
  refine ⟨fun b x1 x2 x3 x4 => ?_, fun i x1 x2 x3 => ?_, fun i x1 => ?_⟩
  · rw [sf_uzn g (by omega)]; exact h.1 b x1 x2 x3 x4
  · rw [← h.2.1 i x1 x2 x3]; unfold iq_uz; rw [if_neg (by omega)]
  · rw [← h.2.2 i x1]; unfold iq_uz; rw [if_neg (by omega)]
theorem sf_MK.i78 {g0 g g' : iq_I} (h : sf_MK g0 g) (e : iq_78 g g') : sf_MK g0 g' := by
  refine ⟨fun b x1 x2 x3 x4 => ?_, fun i x1 x2 x3 => ?_, fun i x1 => ?_⟩
  · rw [e.1 b x2]; exact h.1 b x1 x2 x3 x4
  · rw [e.1 77 (by decide)]; exact h.2.1 i x1 x2 x3
  · rw [e.2 i x1]; exact h.2.2 i x1
theorem sf_MSc {g g' : iq_I} {off : Int} {P : Int → Int} {S : Int64} {m : Int} {R : Int → Int} (h : iq_MS g off P S m R) (e : g' 78 = g 78) : iq_MS g' off P S m R := by
  unfold iq_MS at h ⊢
  rw [e]
  exact h
def sf_J (D : Int → Int) (g0 g : iq_I) (st : List Nat) (X : iq_I) (S : Int64) : Prop := sf_MK g0 g ∧ (iq_ZV (X 4) S (X 6 0) (X 5) ∧ iq_MS g 0 (X 4) S (X 6 0) (X 5)) ∧ (g 77 43 = X 0 2 ∧ g 77 44 = X 0 9) ∧ (g 101 0 = X 0 10 ∧ g 101 1 = X 0 11 ∧ g 101 2 = X 0 12 ∧ g 101 3 = X 0 13 ∧ g 101 4 = X 0 14) ∧ (g 77 46 = min 60 (X 0 13) ∧ 0 ≤ X 0 13) ∧ (∀ i, 0 ≤ i → i < X 0 13 → i < 60 → g 104 i = X 3 i) ∧ X 0 7 = st.length ∧ sf_ST D st (X 1) (X 2) (g 100) (g 103) (g 77 45)
/-- only what J names of X counts -/
theorem sf_J.x {D : Int → Int} {g0 g X X' : iq_I} {st : List Nat} {S : Int64} (h : sf_J D g0 g st X S) (e : ∀ j, ¬ j = 0 → X' j = X j) (e0 : ∀ k, k = 2 ∨ k = 7 ∨ (9 ≤ k ∧ k ≤ 14) → X' 0 k = X 0 k) : sf_J D g0 g st X' S := by
  unfold sf_J at h ⊢
  rw [e 1 (by decide), e 2 (by decide), e 3 (by decide), e 4 (by decide), e 5 (by decide), e 6 (by decide), e0 2 (by omega), e0 7 (by omega), e0 9 (by omega), e0 10 (by omega), e0 11 (by omega), e0 12 (by omega), e0 13 (by omega), e0 14 (by omega)]
  exact h
/-- scratch of the model -/
theorem sf_J.scr {D : Int → Int} {g0 g g' X : iq_I} {st : List Nat} {S : Int64} (h : sf_J D g0 g st X S) (e1 : ∀ j, ¬ j = 77 → ¬ (85 ≤ j ∧ j ≤ 89) → g' j = g j) (e2 : ∀ k, ¬ k = 26 → ¬ k = 27 → g' 77 k = g 77 k) : sf_J D g0 g' st X S := by
  obtain ⟨k, z, a, c, lg, lo, dp, s⟩ := h
  have q1 := e1 101 (by decide) (by decide)
  have q2 := e1 104 (by decide) (by decide)
  have q3 := e1 100 (by decide) (by decide)
  have q4 := e1 103 (by decide) (by decide)
  refine ⟨⟨fun b x1 x2 x3 x4 => by rw [e1 b x1 x3]; exact k.1 b x1 x2 x3 x4, fun i x1 x2 x3 => by rw [e2 i x2 x3]; exact k.2.1 i x1 x2 x3, fun i x1 => by rw [e1 78 (by decide) (by decide)]; exact k.2.2 i x1⟩, ⟨z.1, sf_MSc z.2 (e1 78 (by decide) (by decide))⟩, ?_, ?_, ?_, ?_, dp, ?_⟩
  · rw [e2 43 (by decide) (by decide), e2 44 (by decide) (by decide)]; exact a
  · rw [q1]; exact c
  · rw [e2 46 (by decide) (by decide)]; exact lg
  · rw [q2]; exact lo
  · rw [q3, q4, e2 45 (by decide) (by decide)]; exact s
theorem sf_J.c0 {D : Int → Int} {g0 g X : iq_I} {st : List Nat} {S : Int64} (h : sf_J D g0 g st X S) : sf_J D g0 (iq_uz g 101 0 (g 101 0 + 1)) st (iq_uz X 0 10 (X 0 10 + 1)) S := by
  obtain ⟨k, z, a, c, lg, lo, dp, s⟩ := h
  have e : ∀ j, ¬ j = 0 → (iq_uz X 0 10 (X 0 10 + 1)) j = X j := fun j hj => sf_uzn X hj _ _
  have e0 : ∀ k, ¬ k = 10 → (iq_uz X 0 10 (X 0 10 + 1)) 0 k = X 0 k := fun k hk => by simp [iq_uz, hk]
  have eg : ∀ j, ¬ j = 101 → (iq_uz g 101 0 (g 101 0 + 1)) j = g j := fun j hj => sf_uzn g hj _ _
  unfold sf_J
  rw [e 1 (by decide), e 2 (by decide), e 3 (by decide), e 4 (by decide), e 5 (by decide), e 6 (by decide), e0 2 (by decide), e0 7 (by decide), e0 9 (by decide), e0 13 (by decide), e0 14 (by decide), eg 77 (by decide), eg 104 (by decide), eg 100 (by decide), eg 103 (by decide)]
  refine ⟨k.uz (by omega), ⟨z.1, sf_MSc z.2 (eg 78 (by decide))⟩, a, ?_, lg, lo, dp, s⟩
  obtain ⟨c0, c1, c2, c3, c4⟩ := c
  simp [iq_uz, c0, c1, c2, c3, c4]
theorem sf_J.c1 {D : Int → Int} {g0 g X : iq_I} {st : List Nat} {S : Int64} (h : sf_J D g0 g st X S) : sf_J D g0 (iq_uz g 101 1 (g 101 1 + 1)) st (iq_uz X 0 11 (X 0 11 + 1)) S := by
  obtain ⟨k, z, a, c, lg, lo, dp, s⟩ := h
  have e : ∀ j, ¬ j = 0 → (iq_uz X 0 11 (X 0 11 + 1)) j = X j := fun j hj => sf_uzn X hj _ _
  have e0 : ∀ k, ¬ k = 11 → (iq_uz X 0 11 (X 0 11 + 1)) 0 k = X 0 k := fun k hk => by simp [iq_uz, hk]
  have eg : ∀ j, ¬ j = 101 → (iq_uz g 101 1 (g 101 1 + 1)) j = g j := fun j hj => sf_uzn g hj _ _
  unfold sf_J
  rw [e 1 (by decide), e 2 (by decide), e 3 (by decide), e 4 (by decide), e 5 (by decide), e 6 (by decide), e0 2 (by decide), e0 7 (by decide), e0 9 (by decide), e0 13 (by decide), e0 14 (by decide), eg 77 (by decide), eg 104 (by decide), eg 100 (by decide), eg 103 (by decide)]
  refine ⟨k.uz (by omega), ⟨z.1, sf_MSc z.2 (eg 78 (by decide))⟩, a, ?_, lg, lo, dp, s⟩
  obtain ⟨c0, c1, c2, c3, c4⟩ := c
  simp [iq_uz, c0, c1, c2, c3, c4]
theorem sf_J.c2 {D : Int → Int} {g0 g X : iq_I} {st : List Nat} {S : Int64} (h : sf_J D g0 g st X S) : sf_J D g0 (iq_uz g 101 2 (g 101 2 + 1)) st (iq_uz X 0 12 (X 0 12 + 1)) S := by
  obtain ⟨k, z, a, c, lg, lo, dp, s⟩ := h
  have e : ∀ j, ¬ j = 0 → (iq_uz X 0 12 (X 0 12 + 1)) j = X j := fun j hj => sf_uzn X hj _ _
  have e0 : ∀ k, ¬ k = 12 → (iq_uz X 0 12 (X 0 12 + 1)) 0 k = X 0 k := fun k hk => by simp [iq_uz, hk]
  have eg : ∀ j, ¬ j = 101 → (iq_uz g 101 2 (g 101 2 + 1)) j = g j := fun j hj => sf_uzn g hj _ _
  unfold sf_J
  rw [e 1 (by decide), e 2 (by decide), e 3 (by decide), e 4 (by decide), e 5 (by decide), e 6 (by decide), e0 2 (by decide), e0 7 (by decide), e0 9 (by decide), e0 13 (by decide), e0 14 (by decide), eg 77 (by decide), eg 104 (by decide), eg 100 (by decide), eg 103 (by decide)]
  refine ⟨k.uz (by omega), ⟨z.1, sf_MSc z.2 (eg 78 (by decide))⟩, a, ?_, lg, lo, dp, s⟩
  obtain ⟨c0, c1, c2, c3, c4⟩ := c
  simp [iq_uz, c0, c1, c2, c3, c4]
theorem sp335 {N : Nat} {xs : Nat → Int32} {Q : iq_T} {g : iq_I} {l : iq_J} {a : Int} (ha : 0 ≤ a ∧ a < 5) {z : Int} (hz : z = 0 ∨ z = 1) (q1 : z = 1 → Q (some (iq_i z)) (iq_uz g 101 a (g 101 a + 1)) l) (q0 : z = 0 → Q (some (iq_i z)) g l) : iq_P N xs 335 0 [some (iq_r 77), some (iq_i a), some (iq_i z)] [] g l Q :=
  B335_77 _ _ _ _ ⟨by omega, fun h => ⟨hz, q0 h⟩, fun h => ⟨ha, ha, hz, q1 (by omega)⟩⟩
section MS
variable {N : Nat} {xs : Nat → Int32} {Q : iq_T} {g g0 X : iq_I} {l : iq_J} {D : Int → Int} {st : List Nat} {S : Int64} {t : Int}
theorem sf_J.z (h : sf_J D g0 g st X S) {g' X' : iq_I} {S' : Int64} (e : iq_78 g g') (x : ∀ j, ¬ j = 4 → ¬ j = 5 → ¬ j = 6 → X' j = X j) (hz : iq_ZV (X' 4) S' (X' 6 0) (X' 5)) (hM : iq_MS g' 0 (X' 4) S' (X' 6 0) (X' 5)) : sf_J D g0 g' st X' S' := by
  obtain ⟨k, z, a, c, lg, lo, dp, s⟩ := h
  unfold sf_J
  rw [x 0 (by decide) (by decide) (by decide), x 1 (by decide) (by decide) (by decide), x 2 (by decide) (by decide) (by decide), x 3 (by decide) (by decide) (by decide), e.1 77 (by decide), e.1 101 (by decide), e.1 104 (by decide), e.1 100 (by decide), e.1 103 (by decide)]
  exact ⟨k.i78 e, ⟨hz, hM⟩, a, c, lg, lo, dp, s⟩
theorem sf_mSt (h : sf_J D g0 g st X S) (ht : 0 ≤ t ∧ t ≤ 59) (q1 : sf_can X S t = true → ∀ g' : iq_I, sf_J D g0 g' st (sf_sX X S t) (sf_sS X S t) → Q (some (iq_i 1)) g' l) (q0 : sf_can X S t = false → Q (some (iq_i 0)) g l) : iq_P N xs 180 0 [some (iq_r 77), some (iq_i t), none] [] g l (fun r g1 l1 => ∃ z, r = some (iq_i z) ∧ iq_P N xs 335 0 [some (iq_r 77), some (iq_i 1), some (iq_i z)] [] g1 l1 Q) := by
  have hz := h.2.1
  refine sp180 hz.1 hz.2 (by omega) (fun a b g' e m => ⟨_, rfl, sp335 (by omega) (by omega) (fun _ => ?_) (fun h => by omega)⟩) (fun a => ⟨_, rfl, sp335 (by omega) (by omega) (fun h => by omega) (fun _ => q0 ?_)⟩)
  · have cn : sf_can X S t = true := by unfold sf_can; simp [a.1, a.2, b]
    unfold sf_sX sf_sS at q1
    rw [if_pos cn, if_pos cn] at q1
    refine q1 cn _ ?_
    have x4 : (iq_uz (iq_rz X 5 (sf_sh (X 5) t)) 6 0 (min (X 6 0 + 1) 12)) 4 = X 4 := by rw [sf_uzn _ (by decide), sf_rzn _ (by decide)]
    have x5 : (iq_uz (iq_rz X 5 (sf_sh (X 5) t)) 6 0 (min (X 6 0 + 1) 12)) 5 = sf_sh (X 5) t := by rw [sf_uzn _ (by decide)]; unfold iq_rz; rw [if_pos rfl]
    have x6 : (iq_uz (iq_rz X 5 (sf_sh (X 5) t)) 6 0 (min (X 6 0 + 1) 12)) 6 0 = min (X 6 0 + 1) 12 := by simp [iq_uz]
    have x0 : (iq_uz (iq_rz X 5 (sf_sh (X 5) t)) 6 0 (min (X 6 0 + 1) 12)) 0 = X 0 := by rw [sf_uzn _ (by decide), sf_rzn _ (by decide)]
    have j := h.z (X' := iq_uz (iq_rz X 5 (sf_sh (X 5) t)) 6 0 (min (X 6 0 + 1) 12)) (S' := S ||| iq_of t) e (fun j y1 y2 y3 => by rw [sf_uzn _ y3, sf_rzn _ y2]) (by rw [x4, x5, x6]; exact hz.1.press a) (by rw [x4, x5, x6]; exact m)
    have j1 := j.c1
    rw [x0] at j1
    exact j1
  · rcases hc : sf_can X S t with _ | _
    · rfl
    · unfold sf_can at hc
      simp only [Bool.and_eq_true, decide_eq_true_eq, Bool.not_eq_true'] at hc
      exact absurd hc a
theorem sf_noR (hz : iq_ZV (X 4) S (X 6 0) (X 5)) (ht : 0 ≤ t) (a : ¬ ((0 ≤ t ∧ t < X 4 1) ∧ iq_tb S t = true)) : iq_tb S t = false := by
  rcases hc : iq_tb S t with _ | _
  · rfl
  · exact absurd ⟨⟨ht, hz.2.1 t hc⟩, hc⟩ a
theorem sf_rel (h : sf_J D g0 g st X S) (ht : 0 ≤ t) (x : t < X 4 1) (b : iq_tb S t = true) (m : iq_MS (iq_uz g 78 (20 + t) 0) 0 (X 4) (S &&& (iq_of t ^^^ Int64.ofNat 18446744073709551615)) (X 6 0) (X 5)) : sf_J D g0 (iq_uz g 78 (20 + t) 0) st X (sf_rlS S t) := by
  have hz := h.2.1
  have p1 := hz.1.1.2.1
  have zz : iq_ZV (X 4) (sf_rlS S t) (X 6 0) (X 5) := by
    unfold sf_rlS
    rw [if_pos b]
    refine ⟨hz.1.1, fun u hu => ?_, hz.1.2.2⟩
    rw [iq_tb_and, Bool.and_eq_true] at hu
    exact hz.1.2.1 u hu.1
  refine h.z ((iq_78.refl g).uz (by omega)) (fun _ _ _ _ => rfl) zz ?_
  unfold sf_rlS
  rw [if_pos b]
  exact m
theorem sf_mLi (h : sf_J D g0 g st X S) (ht : 0 ≤ t ∧ t ≤ 59) (q1 : iq_tb S t = true → ∀ g' : iq_I, sf_J D g0 g' st (sf_lX X S t) (sf_rlS S t) → Q (some (iq_i 1)) g' l) (q0 : iq_tb S t = false → Q (some (iq_i 0)) g l) : iq_P N xs 184 0 [some (iq_r 77), some (iq_i t)] [] g l (fun r g1 l1 => ∃ z, r = some (iq_i z) ∧ iq_P N xs 335 0 [some (iq_r 77), some (iq_i 2), some (iq_i z)] [] g1 l1 Q) := by
  have hz := h.2.1
  refine sp184 hz.1 hz.2 (by omega) (fun a b m => ⟨_, rfl, sp335 (by omega) (by omega) (fun _ => ?_) (fun h => by omega)⟩) (fun a => ⟨_, rfl, sp335 (by omega) (by omega) (fun h => by omega) (fun _ => q0 (sf_noR hz.1 ht.1 a))⟩)
  have q := q1 b
  unfold sf_lX at q
  rw [if_pos b] at q
  exact q _ (sf_rel h ht.1 a.2 b m).c2
theorem sf_mRo (h : sf_J D g0 g st X S) (ht : 0 ≤ t ∧ t ≤ 59) (q1 : sf_mv X t = true → ∀ g' : iq_I, sf_J D g0 g' st (iq_uz X 4 5 t) S → Q (some (iq_i 1)) g' l) (q0 : sf_mv X t = false → Q (some (iq_i 0)) g l) : iq_P N xs 336 0 [some (iq_r 77), some (iq_i t)] [] g l Q := by
  have hz := h.2.1
  have p1 := hz.1.1.2.1
  have p5 := hz.1.1.2.2.2.2.2.1
  have e1 := hz.2.p 1 (by omega) (by omega)
  have e5 := hz.2.p 5 (by omega) (by omega)
  refine B336_77 _ _ _ (sp158 (by omega) (by omega) (fun a b => ⟨_, rfl, by omega, fun h => by omega, fun _ => ⟨by omega, fun c => q1 ?_ _ ?_, fun c => q0 ?_⟩⟩) (fun a => ⟨_, rfl, by omega, fun _ => q0 ?_, fun h => by omega⟩))
  · unfold sf_mv; simp [a, show t < X 4 1 by omega, show ¬ X 4 5 = t by omega]
  · have k4 : ∀ k, ¬ k = 5 → (iq_uz X 4 5 t) 4 k = X 4 k := fun k hk => by simp [iq_uz, hk]
    have k5 : (iq_uz X 4 5 t) 4 5 = t := by simp [iq_uz]
    have x5 : (iq_uz X 4 5 t) 5 = X 5 := sf_uzn X (by decide) _ _
    have x6 : (iq_uz X 4 5 t) 6 = X 6 := sf_uzn X (by decide) _ _
    refine h.z ((iq_78.refl g).uz (by omega)) (fun j y _ _ => sf_uzn X y _ _) ?_ (.mk0 (fun k u w => ?_) (fun u x y => ?_) ?_ (fun k x y => ?_))
    · rw [x5, x6]
      exact sf_mvZ hz.1 ⟨a, by omega⟩ _ k5 k4
    · by_cases hk : k = 5
      · rw [hk, k5]; simp [iq_uz]
      · rw [k4 k hk, iq_uz78 hk]; exact hz.2.p k u w
    · rw [iq_uz78 (by omega)]; exact hz.2.s u x y
    · rw [x6, iq_uz78 (by omega)]; exact hz.2.n
    · rw [x6] at y
      rw [x5, iq_uz78 (by omega)]; exact hz.2.r k x y
  · unfold sf_mv; simp [show X 4 5 = t by omega]
  · rcases hc : sf_mv X t with _ | _
    · rfl
    · unfold sf_mv at hc
      simp only [Bool.and_eq_true, decide_eq_true_eq] at hc
      omega
theorem sf_J.d (h : sf_J D g0 g st X S) (v : Int) : sf_J D g0 (iq_uz g 77 43 v) st (iq_uz X 0 2 v) S := by
  obtain ⟨k, z, a, c, lg, lo, dp, s⟩ := h
  have e : ∀ j, ¬ j = 0 → (iq_uz X 0 2 v) j = X j := fun j hj => sf_uzn X hj _ _
  have e0 : ∀ k, ¬ k = 2 → (iq_uz X 0 2 v) 0 k = X 0 k := fun k hk => by simp [iq_uz, hk]
  have eg : ∀ j, ¬ j = 77 → (iq_uz g 77 43 v) j = g j := fun j hj => sf_uzn g hj _ _
  have e7 : ∀ k, ¬ k = 43 → (iq_uz g 77 43 v) 77 k = g 77 k := fun k hk => by simp [iq_uz, hk]
  unfold sf_J
  rw [e 1 (by decide), e 2 (by decide), e 3 (by decide), e 4 (by decide), e 5 (by decide), e 6 (by decide), e0 7 (by decide), e0 9 (by decide), e0 10 (by decide), e0 11 (by decide), e0 12 (by decide), e0 13 (by decide), e0 14 (by decide), eg 101 (by decide), eg 104 (by decide), eg 100 (by decide), eg 103 (by decide), e7 44 (by decide), e7 45 (by decide), e7 46 (by decide)]
  exact ⟨k.uz (by omega), ⟨z.1, sf_MSc z.2 (eg 78 (by decide))⟩, ⟨by simp [iq_uz], a.2⟩, c, lg, lo, dp, s⟩
theorem sf_J.n (h : sf_J D g0 g st X S) (v : Int) : sf_J D g0 (iq_uz g 77 44 v) st (iq_uz X 0 9 v) S := by
  obtain ⟨k, z, a, c, lg, lo, dp, s⟩ := h
  have e : ∀ j, ¬ j = 0 → (iq_uz X 0 9 v) j = X j := fun j hj => sf_uzn X hj _ _
  have e0 : ∀ k, ¬ k = 9 → (iq_uz X 0 9 v) 0 k = X 0 k := fun k hk => by simp [iq_uz, hk]
  have eg : ∀ j, ¬ j = 77 → (iq_uz g 77 44 v) j = g j := fun j hj => sf_uzn g hj _ _
  have e7 : ∀ k, ¬ k = 44 → (iq_uz g 77 44 v) 77 k = g 77 k := fun k hk => by simp [iq_uz, hk]
  unfold sf_J
  rw [e 1 (by decide), e 2 (by decide), e 3 (by decide), e 4 (by decide), e 5 (by decide), e 6 (by decide), e0 7 (by decide), e0 2 (by decide), e0 10 (by decide), e0 11 (by decide), e0 12 (by decide), e0 13 (by decide), e0 14 (by decide), eg 101 (by decide), eg 104 (by decide), eg 100 (by decide), eg 103 (by decide), e7 43 (by decide), e7 45 (by decide), e7 46 (by decide)]
  exact ⟨k.uz (by omega), ⟨z.1, sf_MSc z.2 (eg 78 (by decide))⟩, ⟨a.1, by simp [iq_uz]⟩, c, lg, lo, dp, s⟩
theorem sp338 {a : Int} (hd : g 77 43 = X 0 2) (hr : 0 ≤ X 0 2 ∧ X 0 2 < 65536) (ha : 0 < a ∧ a ≤ 60) (q : Q (some (iq_i (sf_dw (X 0 2) / 8 % a))) (iq_uz g 77 43 (sf_dw (X 0 2))) l) : iq_P N xs 338 0 [some (iq_r 77), some (iq_i a)] [] g l Q := by
  have hw := sf_dwR (X 0 2)
  refine B338_77 _ _ _ ?_
  rw [hd]
  have e1 : Int.tmod (X 0 2 * 3293 + 11527) 65536 = sf_dw (X 0 2) := by
    rw [Int.tmod_eq_emod_of_nonneg (by omega)]
    rfl
  rw [e1]
  have e2 : Int.tdiv (sf_dw (X 0 2)) 8 = sf_dw (X 0 2) / 8 := by
    rw [Int.tdiv_eq_ediv_of_nonneg (by omega)]
  rw [e2, Int.tmod_eq_emod_of_nonneg (by omega)]
  exact ⟨by omega, by omega, by omega, q⟩
/-- the draw alone, without what it leads to -/
def sf_a2 (X : iq_I) : iq_I := iq_uz X 0 2 (sf_dw (sf_dw (X 0 2)))
theorem sf_mAn (h : sf_J D g0 g st X S) (hr : 0 ≤ X 0 2 ∧ X 0 2 < 65536) (q1 : ∀ g' : iq_I, sf_J D g0 g' st (sf_aX X S) (sf_aS X S) → Q (some (iq_i 1)) g' l) (q0 : ∀ g' : iq_I, sf_J D g0 g' st (sf_a2 X) (sf_aS X S) → sf_aX X S = iq_uz (sf_a2 X) 0 10 (X 0 10 + 1) → Q (some (iq_i 0)) g' l) : iq_P N xs 339 0 [some (iq_r 77), none] [] g l Q := by
  have hz := h.2.1
  have p0 := hz.1.1.1
  have p1 := hz.1.1.2.1
  have e0 := hz.2.p 0 (by omega) (by omega)
  have e1 := hz.2.p 1 (by omega) (by omega)
  have hw := sf_dwR (X 0 2)
  have w : (iq_uz X 0 2 (sf_dw (X 0 2))) 0 2 = sf_dw (X 0 2) := by simp [iq_uz]
  have j1 := h.d (sf_dw (X 0 2))
  have j2 := j1.d (sf_dw (sf_dw (X 0 2)))
  rw [sf_uzz X] at j2
  have ht : 0 ≤ sf_at X ∧ sf_at X < X 4 1 := by
    unfold sf_at
    exact ⟨Int.emod_nonneg _ (by omega), Int.emod_lt_of_pos _ (by omega)⟩
  refine B339_77 _ _ ?_
  rw [e1]
  refine sp338 (X := X) h.2.2.1.1 hr (by omega) ⟨_, rfl, sp338 (X := iq_uz X 0 2 (sf_dw (X 0 2))) j1.2.2.1.1 (by rw [w]; exact hw) (by omega) ⟨_, rfl, ?_⟩⟩
  rw [w, show (iq_uz (iq_uz g 77 43 (sf_dw (X 0 2))) 77 43 (sf_dw (sf_dw (X 0 2)))) 78 0 = X 4 0 by rw [← e0]; simp [iq_uz]]
  have hu : 0 ≤ sf_dw (sf_dw (X 0 2)) / 8 % 16 ∧ sf_dw (sf_dw (X 0 2)) / 8 % 16 < 16 := by omega
  have y4 : (iq_uz X 0 2 (sf_dw (sf_dw (X 0 2)))) 4 = X 4 := sf_uzn X (by decide) _ _
  have yc : sf_can (iq_uz X 0 2 (sf_dw (sf_dw (X 0 2)))) S (sf_at X) = sf_can X S (sf_at X) := by unfold sf_can; rw [y4]
  have y10 : (iq_uz X 0 2 (sf_dw (sf_dw (X 0 2)))) 0 10 = X 0 10 := by simp [iq_uz]
  unfold sf_aX sf_aS at q1 q0
  refine ⟨by omega, fun c => ?_, fun c => ?_⟩
  · have n : ¬ sf_an X = true := by unfold sf_an; simp; omega
    rw [if_neg n, if_neg n] at q1 q0
    refine sf_mSt j2 (t := sf_at X) (by omega) (fun a g' j => ⟨_, rfl, by omega, q1 g' ?_⟩) (fun a => ⟨_, rfl, by omega, q0 _ ?_ ?_⟩)
    · unfold sf_sS at j ⊢
      rw [yc] at j
      exact j
    · unfold sf_sS
      rw [← yc, a, if_neg (by decide)]
      exact j2
    · unfold sf_sX
      rw [a, if_neg (by decide), y10]
      rfl
  · have n : sf_an X = true := by unfold sf_an; simp; omega
    rw [if_pos n, if_pos n] at q1 q0
    refine sf_mLi j2 (t := sf_at X) (by omega) (fun a g' j => ⟨_, rfl, by omega, q1 g' j⟩) (fun a => ⟨_, rfl, by omega, q0 _ ?_ ?_⟩)
    · unfold sf_rlS
      rw [a, if_neg (by decide)]
      exact j2
    · unfold sf_lX
      rw [a, if_neg (by decide), y10]
      rfl
/-- letting go -/
theorem sp341 {o : Nat} {r : List Nat} (h : sf_J D g0 g (o :: r) X S) (ho : D (6 * o) = 12) (ht : 0 ≤ D (6 * o + 1) ∧ D (6 * o + 1) ≤ 59) (hl : r.length ≤ 2) (q : ∀ g' : iq_I, sf_J D g0 g' r (sf_dX (iq_uz X 0 7 (X 0 7 - 1)) (D (6 * o + 1))) (sf_rlS S (D (6 * o + 1))) → Q none g' l) : iq_P N xs 341 0 [some (iq_r 77), none] [] g l Q := by
  obtain ⟨k, z, a, c, lg, lo, dp, s⟩ := h
  have sR := s.rng
  simp only [List.length_cons] at sR dp
  rw [sf_ST] at s
  rcases s.2 with s2 | s2
  · rw [ho] at s2; exact absurd s2.1 (by decide)
  have s3 := s2.2.2.rng
  have eg : ∀ j, ¬ j = 77 → (iq_uz g 77 45 (g 77 45 - 1)) j = g j := fun j hj => sf_uzn g hj _ _
  have e7 : ∀ k, ¬ k = 45 → (iq_uz g 77 45 (g 77 45 - 1)) 77 k = g 77 k := fun k hk => by simp [iq_uz, hk]
  have xe : ∀ j, ¬ j = 0 → (iq_uz X 0 7 (X 0 7 - 1)) j = X j := fun j hj => sf_uzn X hj _ _
  have x0 : ∀ k, ¬ k = 7 → (iq_uz X 0 7 (X 0 7 - 1)) 0 k = X 0 k := fun k hk => by simp [iq_uz, hk]
  have j1 : sf_J D g0 (iq_uz g 77 45 (g 77 45 - 1)) r (iq_uz X 0 7 (X 0 7 - 1)) S := by
    unfold sf_J
    rw [xe 1 (by decide), xe 2 (by decide), xe 3 (by decide), xe 4 (by decide), xe 5 (by decide), xe 6 (by decide), x0 2 (by decide), x0 9 (by decide), x0 10 (by decide), x0 11 (by decide), x0 12 (by decide), x0 13 (by decide), x0 14 (by decide), eg 101 (by decide), eg 104 (by decide), eg 100 (by decide), eg 103 (by decide), e7 43 (by decide), e7 44 (by decide), e7 46 (by decide)]
    refine ⟨k.uz (by omega), ⟨z.1, sf_MSc z.2 (eg 78 (by decide))⟩, a, c, lg, lo, ?_, ?_⟩
    · rw [show (iq_uz X 0 7 (X 0 7 - 1)) 0 7 = X 0 7 - 1 by simp [iq_uz]]; omega
    · rw [show (iq_uz g 77 45 (g 77 45 - 1)) 77 45 = g 77 45 - 1 by simp [iq_uz]]; exact s2.2.2
  have fin : ∀ (g1 : iq_I) (S1 : Int64), sf_J D g0 g1 r (iq_uz X 0 7 (X 0 7 - 1)) S1 → (∀ g' : iq_I, sf_J D g0 g' r (sf_dX (iq_uz X 0 7 (X 0 7 - 1)) (D (6 * o + 1))) S1 → Q none g' l) → (-2147483648 ≤ g1 77 46 ∧ g1 77 46 ≤ 2147483647) ∧ (¬ g1 77 46 = 60 → (0 ≤ g1 77 46 ∧ g1 77 46 < 60) ∧ iq_P N xs 341 56 [some (iq_r 77), some (iq_i (D (6 * o + 1)))] [] (iq_uz (iq_uz g1 101 3 (g1 101 3 + 1)) 104 (g1 77 46) (D (6 * o + 1))) l Q) ∧ (g1 77 46 = 60 → Q none (iq_uz g1 101 3 (g1 101 3 + 1)) l) := by
    intro g1 S1 j q
    obtain ⟨k, z, a, c, lg, lo, dp, s⟩ := j
    rw [x0 13 (by decide)] at c lg lo
    have d13 : (sf_dX (iq_uz X 0 7 (X 0 7 - 1)) (D (6 * o + 1))) 0 13 = X 0 13 + 1 := by unfold sf_dX; rw [x0 13 (by decide)]; simp [iq_uz]
    have dn : ∀ k, ¬ k = 13 → (sf_dX (iq_uz X 0 7 (X 0 7 - 1)) (D (6 * o + 1))) 0 k = (iq_uz X 0 7 (X 0 7 - 1)) 0 k := fun k hk => by
      unfold sf_dX
      split <;> simp [iq_uz, hk]
    have dj : ∀ j, ¬ j = 0 → ¬ j = 3 → (sf_dX (iq_uz X 0 7 (X 0 7 - 1)) (D (6 * o + 1))) j = (iq_uz X 0 7 (X 0 7 - 1)) j := fun j h0 h3 => by
      unfold sf_dX
      rw [sf_uzn _ h0]
      split
      · rw [sf_uzn _ h3]
      · rfl
    refine ⟨by omega, fun n => ⟨by omega, B341_p56_77 _ _ _ (q _ ?_)⟩, fun n => q _ ?_⟩
    · have d3 : ∀ i, (sf_dX (iq_uz X 0 7 (X 0 7 - 1)) (D (6 * o + 1))) 3 i = if i = X 0 13 then D (6 * o + 1) else (iq_uz X 0 7 (X 0 7 - 1)) 3 i := fun i => by
        unfold sf_dX
        rw [x0 13 (by decide), if_pos (by omega), sf_uzn _ (by decide)]
        unfold iq_uz
        simp
      have G : ∀ j, ¬ j = 77 → ¬ j = 101 → ¬ j = 104 → (iq_uz (iq_uz (iq_uz g1 101 3 (g1 101 3 + 1)) 104 (g1 77 46) (D (6 * o + 1))) 77 46 ((iq_uz (iq_uz g1 101 3 (g1 101 3 + 1)) 104 (g1 77 46) (D (6 * o + 1))) 77 46 + 1)) j = g1 j := fun j h1 h2 h3 => by rw [sf_uzn _ h1, sf_uzn _ h3, sf_uzn _ h2]
      have G7 : ∀ k, ¬ k = 46 → (iq_uz (iq_uz (iq_uz g1 101 3 (g1 101 3 + 1)) 104 (g1 77 46) (D (6 * o + 1))) 77 46 ((iq_uz (iq_uz g1 101 3 (g1 101 3 + 1)) 104 (g1 77 46) (D (6 * o + 1))) 77 46 + 1)) 77 k = g1 77 k := fun k hk => by simp [iq_uz, hk]
      unfold sf_J
      rw [dj 1 (by decide) (by decide), dj 2 (by decide) (by decide), dj 4 (by decide) (by decide), dj 5 (by decide) (by decide), dj 6 (by decide) (by decide), dn 2 (by decide), dn 9 (by decide), dn 10 (by decide), dn 11 (by decide), dn 12 (by decide), dn 14 (by decide), dn 7 (by decide), d13, G7 43 (by decide), G7 44 (by decide), G7 45 (by decide), G 100 (by decide) (by decide) (by decide), G 103 (by decide) (by decide) (by decide)]
      refine ⟨((k.uz (by omega)).uz (by omega)).uz (by omega), ⟨z.1, sf_MSc z.2 (G 78 (by decide) (by decide) (by decide))⟩, a, ?_, ?_, fun i u v w => ?_, dp, s⟩
      · obtain ⟨c0, c1, c2, c3, c4⟩ := c
        simp [iq_uz, c3]
        simp [iq_uz] at c0 c1 c2 c4
        exact ⟨c0, c1, c2, c4⟩
      · have e : (iq_uz (iq_uz (iq_uz g1 101 3 (g1 101 3 + 1)) 104 (g1 77 46) (D (6 * o + 1))) 77 46 ((iq_uz (iq_uz g1 101 3 (g1 101 3 + 1)) 104 (g1 77 46) (D (6 * o + 1))) 77 46 + 1)) 77 46 = g1 77 46 + 1 := by simp [iq_uz]
        rw [e]; omega
      · rw [d3 i]
        by_cases e : i = X 0 13
        · rw [if_pos e]
          have e2 : i = g1 77 46 := by omega
          rw [e2]; simp [iq_uz]
        · rw [if_neg e, ← lo i u (by omega) w]
          have e2 : ¬ i = g1 77 46 := by omega
          simp [iq_uz, e2]
    · have d3 : (sf_dX (iq_uz X 0 7 (X 0 7 - 1)) (D (6 * o + 1))) 3 = (iq_uz X 0 7 (X 0 7 - 1)) 3 := by
        unfold sf_dX
        rw [x0 13 (by decide), if_neg (by omega), sf_uzn _ (by decide)]
      have G : ∀ j, ¬ j = 101 → (iq_uz g1 101 3 (g1 101 3 + 1)) j = g1 j := fun j h1 => sf_uzn _ h1 _ _
      unfold sf_J
      rw [dj 1 (by decide) (by decide), dj 2 (by decide) (by decide), dj 4 (by decide) (by decide), dj 5 (by decide) (by decide), dj 6 (by decide) (by decide), dn 2 (by decide), dn 9 (by decide), dn 10 (by decide), dn 11 (by decide), dn 12 (by decide), dn 14 (by decide), dn 7 (by decide), d13, d3, G 77 (by decide), G 104 (by decide), G 100 (by decide), G 103 (by decide)]
      refine ⟨k.uz (by omega), ⟨z.1, sf_MSc z.2 (G 78 (by decide))⟩, a, ?_, by omega, fun i u v w => lo i u (by omega) w, dp, s⟩
      obtain ⟨c0, c1, c2, c3, c4⟩ := c
      simp [iq_uz, c3]
      simp [iq_uz] at c0 c1 c2 c4
      exact ⟨c0, c1, c2, c4⟩
  have hz := j1.2.1
  refine B341_77 _ _ ⟨by omega, ?_⟩
  rw [s2.2.1]
  refine sp184 hz.1 hz.2 (by omega) (fun a b m => ⟨_, rfl, fin _ _ (sf_rel j1 (by omega) a.2 b m) q⟩) (fun a => ⟨_, rfl, fin _ _ j1 (fun g' j => q g' ?_)⟩)
  have e := sf_noR hz.1 (by omega) a
  unfold sf_rlS
  rw [e, if_neg (by decide)]
  exact j
end MS
