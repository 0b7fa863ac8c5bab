/-! Studies lived, in the class: the life and its scale, and the trial ones. -/
theorem sf_uzs {α : Type} (X : Nat → Int → α) (j : Nat) (i : Int) : iq_uz X j i (X j i) = X := by
  funext a b
  unfold iq_uz
  split
  · next c => rw [c.1, c.2]
  · rfl
theorem sf_uzz {α : Type} (X : Nat → Int → α) (j : Nat) (i : Int) (v w : α) : iq_uz (iq_uz X j i v) j i w = iq_uz X j i w := by
  funext a b
  unfold iq_uz
  split <;> simp_all
theorem sf_uzc {α : Type} {g X : Nat → Int → α} {c a : Nat} (h : g c = X a) (k : Int) (v : α) : (iq_uz g c k v) c = (iq_uz X a k v) a := by
  funext i
  have := congrFun h i
  unfold iq_uz
  by_cases e : i = k
  · rw [if_pos ⟨rfl, e⟩, if_pos ⟨rfl, e⟩]
  · rw [if_neg (fun z => e z.2), if_neg (fun z => e z.2), this]
theorem sf_uzn {α : Type} (g : Nat → Int → α) {c d : Nat} (h : ¬ d = c) (k : Int) (v : α) : (iq_uz g c k v) d = g d := by
  funext i
  unfold iq_uz
  rw [if_neg (fun z => h z.1)]
theorem sf_rzn {α : Type} (g : Nat → Int → α) {c d : Nat} (h : ¬ d = c) (f : Int → α) : (iq_rz g c f) d = g d := by
  unfold iq_rz
  rw [if_neg h]
/-- the STUDIES -/
def sf_PG (g : iq_I) (n : Int) (K T M B : Int → Int) : Prop := g 26 4 = n ∧ g 27 = K ∧ g 28 = T ∧ g 29 = M ∧ g 30 = B
/-- the life holds X and S; all else is as it was -/
def sf_H (c s : Nat) (g0 : iq_I) (l0 : iq_J) (g : iq_I) (l : iq_J) (X : iq_I) (S : Int64) : Prop := (∀ j, ¬ (c ≤ j ∧ j ≤ c + 3) → ¬ (s ≤ j ∧ j ≤ s + 2) → g j = g0 j ∧ l j = l0 j) ∧ g c = X 0 ∧ g (c + 1) = X 1 ∧ g (c + 2) = X 2 ∧ g (c + 3) = X 3 ∧ iq_CZ g l s (s + 1) (s + 2) (X 4) S (X 6 0) (X 5)
theorem sf_H.pg {c s : Nat} {g0 g X : iq_I} {l0 l : iq_J} {S : Int64} (h : sf_H c s g0 l0 g l X S) (hc : 30 < c) (hs : 30 < s ∨ s = 23) {n : Int} {K T M B : Int → Int} (p : sf_PG g0 n K T M B) : sf_PG g n K T M B := by
  obtain ⟨p1, p2, p3, p4, p5⟩ := p
  have e : ∀ j, 26 ≤ j → j ≤ 30 → g j = g0 j := fun j a b => (h.1 j (by omega) (by omega)).1
  refine ⟨by rw [e 26 (by omega) (by omega)]; exact p1, by rw [e 27 (by omega) (by omega)]; exact p2, by rw [e 28 (by omega) (by omega)]; exact p3, by rw [e 29 (by omega) (by omega)]; exact p4, by rw [e 30 (by omega) (by omega)]; exact p5⟩
theorem sf_CZn {g g' : iq_I} {l : iq_J} {s p r : Nat} {P : Int → Int} {S : Int64} {m : Int} {R : Int → Int} (h : iq_CZ g l s p r P S m R) (es : g' s = g s) (ep : g' p = g p) (er : g' r = g r) : iq_CZ g' l s p r P S m R := by
  obtain ⟨c0, c1, c2, c3, c4, c5⟩ := h
  exact ⟨c0, fun k a b => by rw [ep]; exact c1 k a b, c2, c3, by rw [es]; exact c4, fun k a b => by rw [er]; exact c5 k a b⟩
theorem sf_H.u0_40 {g0 g X : iq_I} {l0 l : iq_J} {S : Int64} (h : sf_H 40 23 g0 l0 g l X S) (k w : Int) : sf_H 40 23 g0 l0 (iq_uz g 40 k w) l (iq_uz X 0 k w) S := by
  obtain ⟨h0, h1, h2, h3, h4, h5⟩ := h
  refine ⟨fun j a b => ⟨by rw [sf_uzn g (by omega)]; exact (h0 j a b).1, (h0 j a b).2⟩, sf_uzc h1 k w, ?_, ?_, ?_, ?_⟩
  · rw [sf_uzn g (by decide), sf_uzn X (by decide)]; exact h2
  · rw [sf_uzn g (by decide), sf_uzn X (by decide)]; exact h3
  · rw [sf_uzn g (by decide), sf_uzn X (by decide)]; exact h4
  · rw [sf_uzn X (by decide), sf_uzn X (by decide), sf_uzn X (by decide)]
    exact sf_CZn h5 (sf_uzn g (by decide) _ _) (sf_uzn g (by decide) _ _) (sf_uzn g (by decide) _ _)
theorem sf_H.u1_40 {g0 g X : iq_I} {l0 l : iq_J} {S : Int64} (h : sf_H 40 23 g0 l0 g l X S) (k w : Int) : sf_H 40 23 g0 l0 (iq_uz g 41 k w) l (iq_uz X 1 k w) S := by
  obtain ⟨h0, h1, h2, h3, h4, h5⟩ := h
  refine ⟨fun j a b => ⟨by rw [sf_uzn g (by omega)]; exact (h0 j a b).1, (h0 j a b).2⟩, ?_, sf_uzc h2 k w, ?_, ?_, ?_⟩
  · rw [sf_uzn g (by decide), sf_uzn X (by decide)]; exact h1
  · rw [sf_uzn g (by decide), sf_uzn X (by decide)]; exact h3
  · rw [sf_uzn g (by decide), sf_uzn X (by decide)]; exact h4
  · rw [sf_uzn X (by decide), sf_uzn X (by decide), sf_uzn X (by decide)]
    exact sf_CZn h5 (sf_uzn g (by decide) _ _) (sf_uzn g (by decide) _ _) (sf_uzn g (by decide) _ _)
theorem sf_H.u2_40 {g0 g X : iq_I} {l0 l : iq_J} {S : Int64} (h : sf_H 40 23 g0 l0 g l X S) (k w : Int) : sf_H 40 23 g0 l0 (iq_uz g 42 k w) l (iq_uz X 2 k w) S := by
  obtain ⟨h0, h1, h2, h3, h4, h5⟩ := h
  refine ⟨fun j a b => ⟨by rw [sf_uzn g (by omega)]; exact (h0 j a b).1, (h0 j a b).2⟩, ?_, ?_, sf_uzc h3 k w, ?_, ?_⟩
  · rw [sf_uzn g (by decide), sf_uzn X (by decide)]; exact h1
  · rw [sf_uzn g (by decide), sf_uzn X (by decide)]; exact h2
  · rw [sf_uzn g (by decide), sf_uzn X (by decide)]; exact h4
  · rw [sf_uzn X (by decide), sf_uzn X (by decide), sf_uzn X (by decide)]
    exact sf_CZn h5 (sf_uzn g (by decide) _ _) (sf_uzn g (by decide) _ _) (sf_uzn g (by decide) _ _)
theorem sf_H.u3_40 {g0 g X : iq_I} {l0 l : iq_J} {S : Int64} (h : sf_H 40 23 g0 l0 g l X S) (k w : Int) : sf_H 40 23 g0 l0 (iq_uz g 43 k w) l (iq_uz X 3 k w) S := by
  obtain ⟨h0, h1, h2, h3, h4, h5⟩ := h
  refine ⟨fun j a b => ⟨by rw [sf_uzn g (by omega)]; exact (h0 j a b).1, (h0 j a b).2⟩, ?_, ?_, ?_, sf_uzc h4 k w, ?_⟩
  · rw [sf_uzn g (by decide), sf_uzn X (by decide)]; exact h1
  · rw [sf_uzn g (by decide), sf_uzn X (by decide)]; exact h2
  · rw [sf_uzn g (by decide), sf_uzn X (by decide)]; exact h3
  · rw [sf_uzn X (by decide), sf_uzn X (by decide), sf_uzn X (by decide)]
    exact sf_CZn h5 (sf_uzn g (by decide) _ _) (sf_uzn g (by decide) _ _) (sf_uzn g (by decide) _ _)
theorem sf_H.f_40 {g0 g X : iq_I} {l0 l : iq_J} {S : Int64} (h : sf_H 40 23 g0 l0 g l X S) : g 40 = X 0 ∧ g 41 = X 1 ∧ g 42 = X 2 ∧ g 43 = X 3 := ⟨h.2.1, h.2.2.1, h.2.2.2.1, h.2.2.2.2.1⟩
/-- a scale that has changed -/
theorem sf_H.z_40 {g0 g g' X : iq_I} {l0 l l' : iq_J} {S S' : Int64} (h : sf_H 40 23 g0 l0 g l X S) {P R : Int → Int} {m : Int} (e : ∀ j, ¬ (23 ≤ j ∧ j ≤ 25) → g' j = g j ∧ l' j = l j) (z : iq_CZ g' l' 23 24 25 P S' m R) (X' : iq_I) (x : ∀ j, j < 4 → X' j = X j) (x4 : X' 4 = P) (x5 : X' 5 = R) (x6 : X' 6 0 = m) : sf_H 40 23 g0 l0 g' l' X' S' := by
  obtain ⟨h0, h1, h2, h3, h4, h5⟩ := h
  refine ⟨fun j a b => ⟨(e j b).1.trans (h0 j a b).1, (e j b).2.trans (h0 j a b).2⟩, ?_, ?_, ?_, ?_, ?_⟩
  · rw [(e 40 (by decide)).1, x 0 (by decide)]; exact h1
  · rw [(e (40 + 1) (by decide)).1, x 1 (by decide)]; exact h2
  · rw [(e (40 + 2) (by decide)).1, x 2 (by decide)]; exact h3
  · rw [(e (40 + 3) (by decide)).1, x 3 (by decide)]; exact h4
  · rw [x4, x5, x6]; exact z
theorem sp318_40 {N : Nat} {xs : Nat → Int32} {Q : iq_T} {g : iq_I} {l : iq_J} {g0 X : iq_I} {l0 : iq_J} {S : Int64} (h : sf_H 40 23 g0 l0 g l X S) (hd : 0 ≤ X 0 7 ∧ X 0 7 ≤ 3) (q : Q (some (iq_i (if 0 < X 0 7 then sf_top X else -1))) g l) : iq_P N xs 318 0 [some (iq_r 40)] [] g l Q := by
  refine B318_40 _ _ ?_
  rw [h.f_40.1, h.f_40.2.1]
  refine ⟨by omega, fun a => ?_, fun a => ⟨by omega, fun b => by omega, fun _ => ⟨by omega, ?_⟩⟩⟩
  · rw [if_neg (by omega)] at q; exact q
  · rw [if_pos a] at q; exact q
theorem sf_H.u0_47 {g0 g X : iq_I} {l0 l : iq_J} {S : Int64} (h : sf_H 47 44 g0 l0 g l X S) (k w : Int) : sf_H 47 44 g0 l0 (iq_uz g 47 k w) l (iq_uz X 0 k w) S := by
  obtain ⟨h0, h1, h2, h3, h4, h5⟩ := h
  refine ⟨fun j a b => ⟨by rw [sf_uzn g (by omega)]; exact (h0 j a b).1, (h0 j a b).2⟩, sf_uzc h1 k w, ?_, ?_, ?_, ?_⟩
  · rw [sf_uzn g (by decide), sf_uzn X (by decide)]; exact h2
  · rw [sf_uzn g (by decide), sf_uzn X (by decide)]; exact h3
  · rw [sf_uzn g (by decide), sf_uzn X (by decide)]; exact h4
  · rw [sf_uzn X (by decide), sf_uzn X (by decide), sf_uzn X (by decide)]
    exact sf_CZn h5 (sf_uzn g (by decide) _ _) (sf_uzn g (by decide) _ _) (sf_uzn g (by decide) _ _)
theorem sf_H.u1_47 {g0 g X : iq_I} {l0 l : iq_J} {S : Int64} (h : sf_H 47 44 g0 l0 g l X S) (k w : Int) : sf_H 47 44 g0 l0 (iq_uz g 48 k w) l (iq_uz X 1 k w) S := by
  obtain ⟨h0, h1, h2, h3, h4, h5⟩ := h
  refine ⟨fun j a b => ⟨by rw [sf_uzn g (by omega)]; exact (h0 j a b).1, (h0 j a b).2⟩, ?_, sf_uzc h2 k w, ?_, ?_, ?_⟩
  · rw [sf_uzn g (by decide), sf_uzn X (by decide)]; exact h1
  · rw [sf_uzn g (by decide), sf_uzn X (by decide)]; exact h3
  · rw [sf_uzn g (by decide), sf_uzn X (by decide)]; exact h4
  · rw [sf_uzn X (by decide), sf_uzn X (by decide), sf_uzn X (by decide)]
    exact sf_CZn h5 (sf_uzn g (by decide) _ _) (sf_uzn g (by decide) _ _) (sf_uzn g (by decide) _ _)
theorem sf_H.u2_47 {g0 g X : iq_I} {l0 l : iq_J} {S : Int64} (h : sf_H 47 44 g0 l0 g l X S) (k w : Int) : sf_H 47 44 g0 l0 (iq_uz g 49 k w) l (iq_uz X 2 k w) S := by
  obtain ⟨h0, h1, h2, h3, h4, h5⟩ := h
  refine ⟨fun j a b => ⟨by rw [sf_uzn g (by omega)]; exact (h0 j a b).1, (h0 j a b).2⟩, ?_, ?_, sf_uzc h3 k w, ?_, ?_⟩
  · rw [sf_uzn g (by decide), sf_uzn X (by decide)]; exact h1
  · rw [sf_uzn g (by decide), sf_uzn X (by decide)]; exact h2
  · rw [sf_uzn g (by decide), sf_uzn X (by decide)]; exact h4
  · rw [sf_uzn X (by decide), sf_uzn X (by decide), sf_uzn X (by decide)]
    exact sf_CZn h5 (sf_uzn g (by decide) _ _) (sf_uzn g (by decide) _ _) (sf_uzn g (by decide) _ _)
theorem sf_H.u3_47 {g0 g X : iq_I} {l0 l : iq_J} {S : Int64} (h : sf_H 47 44 g0 l0 g l X S) (k w : Int) : sf_H 47 44 g0 l0 (iq_uz g 50 k w) l (iq_uz X 3 k w) S := by
  obtain ⟨h0, h1, h2, h3, h4, h5⟩ := h
  refine ⟨fun j a b => ⟨by rw [sf_uzn g (by omega)]; exact (h0 j a b).1, (h0 j a b).2⟩, ?_, ?_, ?_, sf_uzc h4 k w, ?_⟩
  · rw [sf_uzn g (by decide), sf_uzn X (by decide)]; exact h1
  · rw [sf_uzn g (by decide), sf_uzn X (by decide)]; exact h2
  · rw [sf_uzn g (by decide), sf_uzn X (by decide)]; exact h3
  · rw [sf_uzn X (by decide), sf_uzn X (by decide), sf_uzn X (by decide)]
    exact sf_CZn h5 (sf_uzn g (by decide) _ _) (sf_uzn g (by decide) _ _) (sf_uzn g (by decide) _ _)
theorem sf_H.f_47 {g0 g X : iq_I} {l0 l : iq_J} {S : Int64} (h : sf_H 47 44 g0 l0 g l X S) : g 47 = X 0 ∧ g 48 = X 1 ∧ g 49 = X 2 ∧ g 50 = X 3 := ⟨h.2.1, h.2.2.1, h.2.2.2.1, h.2.2.2.2.1⟩
/-- a scale that has changed -/
theorem sf_H.z_47 {g0 g g' X : iq_I} {l0 l l' : iq_J} {S S' : Int64} (h : sf_H 47 44 g0 l0 g l X S) {P R : Int → Int} {m : Int} (e : ∀ j, ¬ (44 ≤ j ∧ j ≤ 46) → g' j = g j ∧ l' j = l j) (z : iq_CZ g' l' 44 45 46 P S' m R) (X' : iq_I) (x : ∀ j, j < 4 → X' j = X j) (x4 : X' 4 = P) (x5 : X' 5 = R) (x6 : X' 6 0 = m) : sf_H 47 44 g0 l0 g' l' X' S' := by
  obtain ⟨h0, h1, h2, h3, h4, h5⟩ := h
  refine ⟨fun j a b => ⟨(e j b).1.trans (h0 j a b).1, (e j b).2.trans (h0 j a b).2⟩, ?_, ?_, ?_, ?_, ?_⟩
  · rw [(e 47 (by decide)).1, x 0 (by decide)]; exact h1
  · rw [(e (47 + 1) (by decide)).1, x 1 (by decide)]; exact h2
  · rw [(e (47 + 2) (by decide)).1, x 2 (by decide)]; exact h3
  · rw [(e (47 + 3) (by decide)).1, x 3 (by decide)]; exact h4
  · rw [x4, x5, x6]; exact z
theorem sp318_47 {N : Nat} {xs : Nat → Int32} {Q : iq_T} {g : iq_I} {l : iq_J} {g0 X : iq_I} {l0 : iq_J} {S : Int64} (h : sf_H 47 44 g0 l0 g l X S) (hd : 0 ≤ X 0 7 ∧ X 0 7 ≤ 3) (q : Q (some (iq_i (if 0 < X 0 7 then sf_top X else -1))) g l) : iq_P N xs 318 0 [some (iq_r 47)] [] g l Q := by
  refine B318_47 _ _ ?_
  rw [h.f_47.1, h.f_47.2.1]
  refine ⟨by omega, fun a => ?_, fun a => ⟨by omega, fun b => by omega, fun _ => ⟨by omega, ?_⟩⟩⟩
  · rw [if_neg (by omega)] at q; exact q
  · rw [if_pos a] at q; exact q
theorem sp118 {N : Nat} {xs : Nat → Int32} {Q : iq_T} {g : iq_I} {l : iq_J} {a0 : Int} (ha : -2147483648 ≤ a0 ∧ a0 ≤ 2147483647) (hn : 0 ≤ g 26 4 ∧ g 26 4 ≤ 30) (q1 : 0 ≤ a0 → a0 < g 26 4 → Q (some (iq_i 1)) g l) (q0 : ¬ (0 ≤ a0 ∧ a0 < g 26 4) → Q (some (iq_i 0)) g l) : iq_P N xs 118 0 [some (iq_r 26), some (iq_i a0)] [] g l Q :=
  B118_26 _ _ _ ⟨ha, fun h => q0 (by omega), fun h => ⟨by omega, fun h => q0 (by omega), fun _ => ⟨ha, fun h => by omega, fun _ => q1 (by omega) (by omega)⟩⟩⟩
theorem sf_GX.top {n b : Int} {X : iq_I} (h : sf_GX n b X) (hd : 0 < X 0 7) : (0 ≤ sf_top X ∧ sf_top X < n) ∧ (1 ≤ X 2 (X 0 7 - 1) ∧ X 2 (X 0 7 - 1) ≤ 99) := h.2.2.2.1 _ (by omega) (by omega)
theorem sp319_40 {N : Nat} {xs : Nat → Int32} {Q : iq_T} {g : iq_I} {l : iq_J} {g0 X : iq_I} {l0 : iq_J} {S : Int64} {n b : Int} {K T M B : Int → Int} (h : sf_H 40 23 g0 l0 g l X S) (p : sf_PG g n K T M B) (hP : sf_GP n K T M B) (hX : sf_GX n b X) (q1 : sf_ae B X = true → Q (some (iq_i 1)) g l) (q0 : sf_ae B X = false → Q (some (iq_i 0)) g l) : iq_P N xs 319 0 [some (iq_r 40), none] [] g l Q := by
  obtain ⟨p1, p2, p3, p4, p5⟩ := p
  have hn := hP.1
  have ha := hX.1
  refine B319_40 _ _ (sp318_40 h hX.2.2.1 ⟨_, rfl, ?_⟩)
  by_cases hd : 0 < X 0 7
  · have ht := hX.top hd
    have hB := hP.2 _ ht.1.1 ht.1.2
    rw [if_pos hd]
    refine sp118 (by omega) (by omega) (fun a c => ⟨_, rfl, by omega, fun h => by omega, fun _ => ⟨by omega, ?_⟩⟩) (fun a => by omega)
    rw [h.f_40.1, p5]
    refine ⟨by omega, fun e => q0 ?_, fun e => q1 ?_⟩
    · unfold sf_ae; simp [e]
    · unfold sf_ae; simp [e, hd]
  · rw [if_neg hd]
    refine sp118 (by omega) (by omega) (fun a c => by omega) (fun a => ⟨_, rfl, by omega, fun _ => q0 ?_, fun h => by omega⟩)
    unfold sf_ae; simp [hd]
theorem sf_re_40 {N : Nat} {xs : Nat → Int32} {Q : iq_T} {g : iq_I} {l : iq_J} {g0 X : iq_I} {l0 : iq_J} {S : Int64} {t : Int} (h : sf_H 40 23 g0 l0 g l X S) (ht : 0 ≤ t ∧ t ≤ 99) (q1 : iq_tb S t = true → ∀ l', sf_H 40 23 g0 l0 g l' X (sf_rlS S t) → Q (some (iq_i 1)) g l') (q0 : iq_tb S t = false → sf_H 40 23 g0 l0 g l X (sf_rlS S t) → Q (some (iq_i 0)) g l) : iq_P N xs 182 0 [some (iq_r 23), some (iq_i t)] [] g l Q := by
  refine sp182_23 h.2.2.2.2.2 (by omega) (fun a b => q1 a _ ?_) (fun a => q0 a ?_)
  · unfold sf_rlS
    rw [if_pos a]
    refine h.z_40 (fun j hj => ⟨rfl, ?_⟩) b X (fun _ _ => rfl) rfl rfl rfl
    exact sf_uzn l (by omega) _ _
  · unfold sf_rlS
    rw [if_neg (by rw [a]; decide)]
    exact h
theorem sp320_40 {N : Nat} {xs : Nat → Int32} {Q : iq_T} {g : iq_I} {l : iq_J} {g0 X : iq_I} {l0 : iq_J} {S : Int64} {t : Int} (h : sf_H 40 23 g0 l0 g l X S) (ht : 0 ≤ t ∧ t ≤ 99) (hl : 0 ≤ X 0 13 ∧ X 0 13 ≤ 2147483647) (q : ∀ (g' : iq_I) (l' : iq_J), sf_H 40 23 g0 l0 g' l' (sf_dX X t) (sf_rlS S t) → Q none g' l') : iq_P N xs 320 0 [some (iq_r 40), some (iq_i t)] [] g l Q := by
  have main : ∀ l' : iq_J, sf_H 40 23 g0 l0 g l' X (sf_rlS S t) → ((-2147483648 ≤ g 40 13 ∧ g 40 13 ≤ 2147483647) ∧ (g 40 13 < 0 → Q none (iq_uz g 40 13 (g 40 13 + 1)) l') ∧ (0 ≤ g 40 13 → (-2147483648 ≤ g 40 13 ∧ g 40 13 ≤ 2147483647) ∧ (60 ≤ g 40 13 → Q none (iq_uz g 40 13 (g 40 13 + 1)) l') ∧ (g 40 13 < 60 → (0 ≤ g 40 13 ∧ g 40 13 < 60) ∧ Q none (iq_uz (iq_uz g 43 (g 40 13) t) 40 13 (g 40 13 + 1)) l'))) := by
    intro l' h'
    rw [h'.f_40.1]
    refine ⟨by omega, fun a => by omega, fun _ => ⟨by omega, fun a => q _ _ ?_, fun a => ⟨by omega, q _ _ ?_⟩⟩⟩
    · unfold sf_dX
      rw [if_neg (by omega)]
      exact h'.u0_40 _ _
    · unfold sf_dX
      rw [if_pos (by omega)]
      exact (h'.u3_40 _ _).u0_40 _ _
  refine B320_40 _ _ _ (sf_re_40 h ht (fun a l' h' => ⟨_, rfl, main l' h'⟩) (fun a h' => ⟨_, rfl, main l h'⟩))
theorem sp321_40 {N : Nat} {xs : Nat → Int32} {Q : iq_T} {g : iq_I} {l : iq_J} {g0 X : iq_I} {l0 : iq_J} {S : Int64} {n b : Int} {K T M B : Int → Int} (h : sf_H 40 23 g0 l0 g l X S) (p : sf_PG g n K T M B) (hP : sf_GP n K T M B) (hX : sf_GX n b X) (hb : b ≤ 1000000) (he : sf_ae B X = true) (q : ∀ (g' : iq_I) (l' : iq_J), sf_H 40 23 g0 l0 g' l' (sf_eX K M X) (sf_eS K M X S) → Q none g' l') : iq_P N xs 321 0 [some (iq_r 40), none] [] g l Q := by
  obtain ⟨p1, p2, p3, p4, p5⟩ := p
  have hn := hP.1
  have hd : 0 < X 0 7 := by
    unfold sf_ae at he
    simp only [Bool.and_eq_true, decide_eq_true_eq] at he
    exact he.1
  have hd3 := hX.2.2.1
  have hl := hX.2.2.2.2.2.2.1
  have ht := hX.top hd
  have hB := hP.2 _ ht.1.1 ht.1.2
  refine B321_40 _ _ (sp318_40 h hX.2.2.1 ⟨_, rfl, ?_⟩)
  rw [if_pos hd]
  refine sp118 (by omega) (by omega) (fun a c => ⟨_, rfl, by omega, fun _ => ⟨by omega, ?_⟩, fun h => by omega⟩) (fun a => by omega)
  rw [h.f_40.1, h.f_40.2.2.1, p2, p4]
  refine ⟨by omega, fun k4 => ⟨by omega, by omega, by omega, ?_⟩, fun k4 => ⟨by omega, ?_⟩⟩
  · have e : (iq_uz g 42 (X 0 7 - 1) (X 2 (X 0 7 - 1) - 1)) 42 (X 0 7 - 1) = X 2 (X 0 7 - 1) - 1 := by simp [iq_uz]
    rw [e]
    have h' := h.u2_40 (X 0 7 - 1) (X 2 (X 0 7 - 1) - 1)
    unfold sf_eX sf_eS at q
    rw [if_neg k4, if_neg k4] at q
    refine ⟨by omega, fun a => B321_p102_40 _ _ _ ?_, fun a => B321_p92_40 _ _ _ ?_⟩
    · rw [if_neg (by omega)] at q
      rw [sf_uzn g (by decide), h.f_40.1]
      exact q _ _ (h'.u0_40 _ _)
    · rw [if_pos (by omega)] at q
      exact q _ _ (h'.u0_40 _ _)
  · unfold sf_eX sf_eS at q
    rw [if_pos k4, if_pos k4] at q
    refine sp320_40 (h.u0_40 7 (X 0 7 - 1)) (by omega) ?_ (fun g' l' h' => ⟨rfl, q g' l' h'⟩)
    rw [show (iq_uz X 0 7 (X 0 7 - 1)) 0 13 = X 0 13 by simp [iq_uz]]
    omega
theorem sp322_40 {N : Nat} {xs : Nat → Int32} {Q : iq_T} {g : iq_I} {l : iq_J} {g0 X : iq_I} {l0 : iq_J} {S : Int64} {n b : Int} {K T M B : Int → Int} (h : sf_H 40 23 g0 l0 g l X S) (p : sf_PG g n K T M B) (hP : sf_GP n K T M B) (hX : sf_GX n b X) (q1 : sf_go n X = true → ∀ g' : iq_I, sf_H 40 23 g0 l0 g' l (sf_cX n X) S → Q (some (iq_i 1)) g' l) (q0 : sf_go n X = false → ∀ g' : iq_I, sf_H 40 23 g0 l0 g' l (sf_cX n X) S → Q (some (iq_i 0)) g' l) : iq_P N xs 322 0 [some (iq_r 40), none] [] g l Q := by
  obtain ⟨p1, p2, p3, p4, p5⟩ := p
  have hn := hP.1
  have ha := hX.1
  have hd := hX.2.2.2.2.2.1
  refine B322_40 _ _ ?_
  rw [h.f_40.1]
  refine sp118 (by omega) (by omega) (fun a c => ⟨_, rfl, by omega, fun h => by omega, fun _ => ?_⟩) (fun a => ⟨_, rfl, by omega, fun _ => ⟨by omega, fun _ => ⟨by omega, fun h => by omega, fun _ => ?_⟩, fun h => by omega⟩, fun h => by omega⟩)
  · rw [h.f_40.1]
    refine ⟨by omega, fun d => ⟨by omega, fun h => by omega, fun _ => ⟨by omega, fun _ => ⟨by omega, fun _ => ?_, fun h => by omega⟩, fun h => by omega⟩⟩, fun d => ⟨by omega, fun h => by omega, fun _ => ⟨by omega, fun h => by omega, fun _ => ⟨by omega, fun h => by omega, fun _ => ?_⟩⟩⟩⟩
    · have h' := ((h.u0_40 14 0).u0_40 4 0).u0_40 9 (X 0 9 + 1)
      have e : sf_cX n X = iq_uz (iq_uz (iq_uz X 0 14 0) 0 4 0) 0 9 (X 0 9 + 1) := by
        unfold sf_cX
        rw [if_pos (by omega), if_pos (by omega)]
      refine B322_p76_40 _ _ _ ?_
      rw [show (iq_uz (iq_uz (iq_uz g 40 14 0) 40 4 0) 40 9 (X 0 9 + 1)) 40 4 = 0 by simp [iq_uz]]
      refine ⟨by omega, fun h => absurd rfl h, fun _ => B322_p83_40 _ _ _ (q1 ?_ _ ?_)⟩
      · unfold sf_go; simp; omega
      · rw [e]; exact h'
    · have h' := ((h.u0_40 14 1).u0_40 4 1).u0_40 9 (X 0 9)
      have e : sf_cX n X = iq_uz (iq_uz (iq_uz X 0 14 1) 0 4 1) 0 9 (X 0 9) := by
        unfold sf_cX
        rw [if_pos (by omega), if_neg (by omega)]
      refine B322_p76_40 _ _ _ ?_
      rw [show (iq_uz (iq_uz (iq_uz g 40 14 1) 40 4 1) 40 9 (X 0 9 + 0)) 40 4 = 1 by simp [iq_uz], Int.add_zero]
      refine ⟨by omega, fun _ => B322_p87_40 _ _ _ (q0 ?_ _ ?_), fun h => by omega⟩
      · unfold sf_go; simp; omega
      · rw [e]; exact h'
  · rw [h.f_40.1]
    have h' := ((h.u0_40 14 0).u0_40 4 1).u0_40 9 (X 0 9)
    have e : sf_cX n X = iq_uz (iq_uz (iq_uz X 0 14 0) 0 4 1) 0 9 (X 0 9) := by
      unfold sf_cX
      rw [if_neg (by omega)]
    refine B322_p76_40 _ _ _ ?_
    rw [show (iq_uz (iq_uz (iq_uz g 40 14 0) 40 4 1) 40 9 (X 0 9 + 0)) 40 4 = 1 by simp [iq_uz], Int.add_zero]
    refine ⟨by omega, fun _ => B322_p87_40 _ _ _ (q0 ?_ _ ?_), fun h => by omega⟩
    · unfold sf_go; simp; omega
    · rw [e]; exact h'
theorem sp319_47 {N : Nat} {xs : Nat → Int32} {Q : iq_T} {g : iq_I} {l : iq_J} {g0 X : iq_I} {l0 : iq_J} {S : Int64} {n b : Int} {K T M B : Int → Int} (h : sf_H 47 44 g0 l0 g l X S) (p : sf_PG g n K T M B) (hP : sf_GP n K T M B) (hX : sf_GX n b X) (q1 : sf_ae B X = true → Q (some (iq_i 1)) g l) (q0 : sf_ae B X = false → Q (some (iq_i 0)) g l) : iq_P N xs 319 0 [some (iq_r 47), none] [] g l Q := by
  obtain ⟨p1, p2, p3, p4, p5⟩ := p
  have hn := hP.1
  have ha := hX.1
  refine B319_47 _ _ (sp318_47 h hX.2.2.1 ⟨_, rfl, ?_⟩)
  by_cases hd : 0 < X 0 7
  · have ht := hX.top hd
    have hB := hP.2 _ ht.1.1 ht.1.2
    rw [if_pos hd]
    refine sp118 (by omega) (by omega) (fun a c => ⟨_, rfl, by omega, fun h => by omega, fun _ => ⟨by omega, ?_⟩⟩) (fun a => by omega)
    rw [h.f_47.1, p5]
    refine ⟨by omega, fun e => q0 ?_, fun e => q1 ?_⟩
    · unfold sf_ae; simp [e]
    · unfold sf_ae; simp [e, hd]
  · rw [if_neg hd]
    refine sp118 (by omega) (by omega) (fun a c => by omega) (fun a => ⟨_, rfl, by omega, fun _ => q0 ?_, fun h => by omega⟩)
    unfold sf_ae; simp [hd]
theorem sf_re_47 {N : Nat} {xs : Nat → Int32} {Q : iq_T} {g : iq_I} {l : iq_J} {g0 X : iq_I} {l0 : iq_J} {S : Int64} {t : Int} (h : sf_H 47 44 g0 l0 g l X S) (ht : 0 ≤ t ∧ t ≤ 99) (q1 : iq_tb S t = true → ∀ l', sf_H 47 44 g0 l0 g l' X (sf_rlS S t) → Q (some (iq_i 1)) g l') (q0 : iq_tb S t = false → sf_H 47 44 g0 l0 g l X (sf_rlS S t) → Q (some (iq_i 0)) g l) : iq_P N xs 182 0 [some (iq_r 44), some (iq_i t)] [] g l Q := by
  refine sp182_44 h.2.2.2.2.2 (by omega) (fun a b => q1 a _ ?_) (fun a => q0 a ?_)
  · unfold sf_rlS
    rw [if_pos a]
    refine h.z_47 (fun j hj => ⟨rfl, ?_⟩) b X (fun _ _ => rfl) rfl rfl rfl
    exact sf_uzn l (by omega) _ _
  · unfold sf_rlS
    rw [if_neg (by rw [a]; decide)]
    exact h
theorem sp320_47 {N : Nat} {xs : Nat → Int32} {Q : iq_T} {g : iq_I} {l : iq_J} {g0 X : iq_I} {l0 : iq_J} {S : Int64} {t : Int} (h : sf_H 47 44 g0 l0 g l X S) (ht : 0 ≤ t ∧ t ≤ 99) (hl : 0 ≤ X 0 13 ∧ X 0 13 ≤ 2147483647) (q : ∀ (g' : iq_I) (l' : iq_J), sf_H 47 44 g0 l0 g' l' (sf_dX X t) (sf_rlS S t) → Q none g' l') : iq_P N xs 320 0 [some (iq_r 47), some (iq_i t)] [] g l Q := by
  have main : ∀ l' : iq_J, sf_H 47 44 g0 l0 g l' X (sf_rlS S t) → ((-2147483648 ≤ g 47 13 ∧ g 47 13 ≤ 2147483647) ∧ (g 47 13 < 0 → Q none (iq_uz g 47 13 (g 47 13 + 1)) l') ∧ (0 ≤ g 47 13 → (-2147483648 ≤ g 47 13 ∧ g 47 13 ≤ 2147483647) ∧ (60 ≤ g 47 13 → Q none (iq_uz g 47 13 (g 47 13 + 1)) l') ∧ (g 47 13 < 60 → (0 ≤ g 47 13 ∧ g 47 13 < 60) ∧ Q none (iq_uz (iq_uz g 50 (g 47 13) t) 47 13 (g 47 13 + 1)) l'))) := by
    intro l' h'
    rw [h'.f_47.1]
    refine ⟨by omega, fun a => by omega, fun _ => ⟨by omega, fun a => q _ _ ?_, fun a => ⟨by omega, q _ _ ?_⟩⟩⟩
    · unfold sf_dX
      rw [if_neg (by omega)]
      exact h'.u0_47 _ _
    · unfold sf_dX
      rw [if_pos (by omega)]
      exact (h'.u3_47 _ _).u0_47 _ _
  refine B320_47 _ _ _ (sf_re_47 h ht (fun a l' h' => ⟨_, rfl, main l' h'⟩) (fun a h' => ⟨_, rfl, main l h'⟩))
theorem sp321_47 {N : Nat} {xs : Nat → Int32} {Q : iq_T} {g : iq_I} {l : iq_J} {g0 X : iq_I} {l0 : iq_J} {S : Int64} {n b : Int} {K T M B : Int → Int} (h : sf_H 47 44 g0 l0 g l X S) (p : sf_PG g n K T M B) (hP : sf_GP n K T M B) (hX : sf_GX n b X) (hb : b ≤ 1000000) (he : sf_ae B X = true) (q : ∀ (g' : iq_I) (l' : iq_J), sf_H 47 44 g0 l0 g' l' (sf_eX K M X) (sf_eS K M X S) → Q none g' l') : iq_P N xs 321 0 [some (iq_r 47), none] [] g l Q := by
  obtain ⟨p1, p2, p3, p4, p5⟩ := p
  have hn := hP.1
  have hd : 0 < X 0 7 := by
    unfold sf_ae at he
    simp only [Bool.and_eq_true, decide_eq_true_eq] at he
    exact he.1
  have hd3 := hX.2.2.1
  have hl := hX.2.2.2.2.2.2.1
  have ht := hX.top hd
  have hB := hP.2 _ ht.1.1 ht.1.2
  refine B321_47 _ _ (sp318_47 h hX.2.2.1 ⟨_, rfl, ?_⟩)
  rw [if_pos hd]
  refine sp118 (by omega) (by omega) (fun a c => ⟨_, rfl, by omega, fun _ => ⟨by omega, ?_⟩, fun h => by omega⟩) (fun a => by omega)
  rw [h.f_47.1, h.f_47.2.2.1, p2, p4]
  refine ⟨by omega, fun k4 => ⟨by omega, by omega, by omega, ?_⟩, fun k4 => ⟨by omega, ?_⟩⟩
  · have e : (iq_uz g 49 (X 0 7 - 1) (X 2 (X 0 7 - 1) - 1)) 49 (X 0 7 - 1) = X 2 (X 0 7 - 1) - 1 := by simp [iq_uz]
    rw [e]
    have h' := h.u2_47 (X 0 7 - 1) (X 2 (X 0 7 - 1) - 1)
    unfold sf_eX sf_eS at q
    rw [if_neg k4, if_neg k4] at q
    refine ⟨by omega, fun a => B321_p102_47 _ _ _ ?_, fun a => B321_p92_47 _ _ _ ?_⟩
    · rw [if_neg (by omega)] at q
      rw [sf_uzn g (by decide), h.f_47.1]
      exact q _ _ (h'.u0_47 _ _)
    · rw [if_pos (by omega)] at q
      exact q _ _ (h'.u0_47 _ _)
  · unfold sf_eX sf_eS at q
    rw [if_pos k4, if_pos k4] at q
    refine sp320_47 (h.u0_47 7 (X 0 7 - 1)) (by omega) ?_ (fun g' l' h' => ⟨rfl, q g' l' h'⟩)
    rw [show (iq_uz X 0 7 (X 0 7 - 1)) 0 13 = X 0 13 by simp [iq_uz]]
    omega
theorem sp322_47 {N : Nat} {xs : Nat → Int32} {Q : iq_T} {g : iq_I} {l : iq_J} {g0 X : iq_I} {l0 : iq_J} {S : Int64} {n b : Int} {K T M B : Int → Int} (h : sf_H 47 44 g0 l0 g l X S) (p : sf_PG g n K T M B) (hP : sf_GP n K T M B) (hX : sf_GX n b X) (q1 : sf_go n X = true → ∀ g' : iq_I, sf_H 47 44 g0 l0 g' l (sf_cX n X) S → Q (some (iq_i 1)) g' l) (q0 : sf_go n X = false → ∀ g' : iq_I, sf_H 47 44 g0 l0 g' l (sf_cX n X) S → Q (some (iq_i 0)) g' l) : iq_P N xs 322 0 [some (iq_r 47), none] [] g l Q := by
  obtain ⟨p1, p2, p3, p4, p5⟩ := p
  have hn := hP.1
  have ha := hX.1
  have hd := hX.2.2.2.2.2.1
  refine B322_47 _ _ ?_
  rw [h.f_47.1]
  refine sp118 (by omega) (by omega) (fun a c => ⟨_, rfl, by omega, fun h => by omega, fun _ => ?_⟩) (fun a => ⟨_, rfl, by omega, fun _ => ⟨by omega, fun _ => ⟨by omega, fun h => by omega, fun _ => ?_⟩, fun h => by omega⟩, fun h => by omega⟩)
  · rw [h.f_47.1]
    refine ⟨by omega, fun d => ⟨by omega, fun h => by omega, fun _ => ⟨by omega, fun _ => ⟨by omega, fun _ => ?_, fun h => by omega⟩, fun h => by omega⟩⟩, fun d => ⟨by omega, fun h => by omega, fun _ => ⟨by omega, fun h => by omega, fun _ => ⟨by omega, fun h => by omega, fun _ => ?_⟩⟩⟩⟩
    · have h' := ((h.u0_47 14 0).u0_47 4 0).u0_47 9 (X 0 9 + 1)
      have e : sf_cX n X = iq_uz (iq_uz (iq_uz X 0 14 0) 0 4 0) 0 9 (X 0 9 + 1) := by
        unfold sf_cX
        rw [if_pos (by omega), if_pos (by omega)]
      refine B322_p76_47 _ _ _ ?_
      rw [show (iq_uz (iq_uz (iq_uz g 47 14 0) 47 4 0) 47 9 (X 0 9 + 1)) 47 4 = 0 by simp [iq_uz]]
      refine ⟨by omega, fun h => absurd rfl h, fun _ => B322_p83_47 _ _ _ (q1 ?_ _ ?_)⟩
      · unfold sf_go; simp; omega
      · rw [e]; exact h'
    · have h' := ((h.u0_47 14 1).u0_47 4 1).u0_47 9 (X 0 9)
      have e : sf_cX n X = iq_uz (iq_uz (iq_uz X 0 14 1) 0 4 1) 0 9 (X 0 9) := by
        unfold sf_cX
        rw [if_pos (by omega), if_neg (by omega)]
      refine B322_p76_47 _ _ _ ?_
      rw [show (iq_uz (iq_uz (iq_uz g 47 14 1) 47 4 1) 47 9 (X 0 9 + 0)) 47 4 = 1 by simp [iq_uz], Int.add_zero]
      refine ⟨by omega, fun _ => B322_p87_47 _ _ _ (q0 ?_ _ ?_), fun h => by omega⟩
      · unfold sf_go; simp; omega
      · rw [e]; exact h'
  · rw [h.f_47.1]
    have h' := ((h.u0_47 14 0).u0_47 4 1).u0_47 9 (X 0 9)
    have e : sf_cX n X = iq_uz (iq_uz (iq_uz X 0 14 0) 0 4 1) 0 9 (X 0 9) := by
      unfold sf_cX
      rw [if_neg (by omega)]
    refine B322_p76_47 _ _ _ ?_
    rw [show (iq_uz (iq_uz (iq_uz g 47 14 0) 47 4 1) 47 9 (X 0 9 + 0)) 47 4 = 1 by simp [iq_uz], Int.add_zero]
    refine ⟨by omega, fun _ => B322_p87_47 _ _ _ (q0 ?_ _ ?_), fun h => by omega⟩
    · unfold sf_go; simp; omega
    · rw [e]; exact h'
