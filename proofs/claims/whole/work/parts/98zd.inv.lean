/-! What the class and the model hold in common, between two calls. -/
def sf_SJ (g : iq_I) (b : Nat) (off : Int) : Prop := (g b 5 = 0 ∨ g b 5 = 1) ∧ (g b 5 = 0 ↔ g 78 (off + 10) = -1) ∧ (g b 5 = 1 → ∃ m : Nat, g 78 (off + 10) = m ∧ sf_PV (fun i => g 78 (off + 92 + i)) m (g b 4) (g (b + 1)) (g (b + 2)) (g (b + 3)) (g (b + 4)) ∧ sf_GP (g b 4) (g (b + 1)) (g (b + 2)) (g (b + 3)) (g (b + 4)))
/-- all but status and fractions -/
def sf_I0 (g : iq_I) (l : iq_J) : Prop := iq_SR g l 23 24 25 0 ∧ sf_SJ g 26 0 ∧ (g 0 18 = g 77 55 ∧ 0 ≤ g 0 18 ∧ g 0 18 ≤ 3) ∧ (∀ k : Nat, (k : Int) < g 0 18 → iq_SR g l (53 + 8 * k) (54 + 8 * k) (55 + 8 * k) (460 * (k + 1)) ∧ sf_SJ g (56 + 8 * k) (460 * (k + 1))) ∧ iq_TR g l ∧ iq_TP g ∧ (g 10 7 = g 77 15 ∧ g 10 8 = g 77 16) ∧ iq_LF g
def sf_INV (g : iq_I) (l : iq_J) : Prop := sf_I0 g l ∧ g 0 0 = g 77 1 ∧ l 0 1 = l 77 2 ∧ l 0 2 = l 77 3
theorem sf_SJ.c {g g' : iq_I} {b : Nat} {off : Int} (h : sf_SJ g b off) (h8 : ∀ i, 0 ≤ i → i < 460 → g' 78 (off + i) = g 78 (off + i)) (hb : ∀ j, b ≤ j → j ≤ b + 4 → g' j = g j) : sf_SJ g' b off := by
  unfold sf_SJ at h ⊢
  rw [hb b (by omega) (by omega), hb (b + 1) (by omega) (by omega), hb (b + 2) (by omega) (by omega), hb (b + 3) (by omega) (by omega), hb (b + 4) (by omega) (by omega), h8 10 (by omega) (by omega)]
  refine ⟨h.1, h.2.1, fun z => ?_⟩
  obtain ⟨m, y1, y2, y3⟩ := h.2.2 z
  have m60 := y2.1
  refine ⟨m, y1, y2.dc (fun i i1 i2 => ?_), y3⟩
  show g' 78 (off + 92 + i) = g 78 (off + 92 + i)
  rw [show off + 92 + i = off + (92 + i) by omega]
  exact h8 _ (by omega) (by omega)
theorem sf_SRc {g g' : iq_I} {l l' : iq_J} {S P R : Nat} {off : Int} (h : iq_SR g l S P R off) (h8 : ∀ i, 0 ≤ i → i < 460 → g' 78 (off + i) = g 78 (off + i)) (hS : g' S = g S ∧ l' S = l S) (hP : g' P = g P) (hR : g' R = g R) : iq_SR g' l' S P R off := by
  obtain ⟨s1, s2, s3, s4, s5, s6, s7⟩ := h
  unfold iq_SR
  rw [hS.1, hS.2, hP, hR, h8 9 (by omega) (by omega)]
  refine ⟨s1, fun k a b => by rw [h8 k a (by omega)]; exact s2 k a b, s3, s4, fun t a b => ?_, s6, fun k a b => ?_⟩
  · rw [show off + 20 + t = off + (20 + t) by omega, h8 _ (by omega) (by omega), show off + (20 + t) = off + 20 + t by omega]; exact s5 t a b
  · have := s6.2.1
    rw [show off + 80 + k = off + (80 + k) by omega, h8 _ (by omega) (by omega), show off + (80 + k) = off + 80 + k by omega]; exact s7 k a b
theorem sf_I0.kk {g g' : iq_I} {l l' : iq_J} (h : sf_I0 g l) (hk : iq_KK g l g' l') : sf_I0 g' l' := by
  obtain ⟨i1, i2, i3, i4, i5, i6, i7, i8⟩ := h
  have e : ∀ j k, iq_sx j k = false → g' j k = g j k := fun j k b => iq_co_at hk.1 b
  have el : ∀ j k, iq_sx j k = false → l' j k = l j k := fun j k b => iq_co_at hk.2.1 b
  have e78 : ∀ i : Int, i < 1840 → g' 78 i = g 78 i := fun i hi => e 78 i (by simp [iq_sx]; omega)
  have w : ∀ j : Nat, (23 ≤ j ∧ j ≤ 30) ∨ (53 ≤ j ∧ j ≤ 76) → g' j = g j ∧ l' j = l j := fun j hj => by
    have b : ∀ k, iq_sx j k = false := fun k => by simp [iq_sx]; omega
    exact ⟨funext (fun k => e j k (b k)), funext (fun k => el j k (b k))⟩
  have e18 : g' 0 18 = g 0 18 := e 0 18 (by decide)
  unfold sf_I0
  rw [e18, e 77 55 (by decide), e 10 7 (by decide), e 10 8 (by decide), e 77 15 (by decide), e 77 16 (by decide)]
  refine ⟨i1.keep hk, i2.c (fun i a b => e78 _ (by omega)) (fun j a b => (w j (by omega)).1), i3, fun k hkk => ?_, ?_, ?_, i7, ?_⟩
  · have z := i4 k hkk
    exact ⟨sf_SRc z.1 (fun i a b => e78 _ (by omega)) (w _ (by omega)) (w _ (by omega)).1 (w _ (by omega)).1, z.2.c (fun i a b => e78 _ (by omega)) (fun j a b => (w j (by omega)).1)⟩
  · intro t ht
    have z := i5 t ht
    rw [e (2 + 2 * t) 1 (by simp [iq_sx]; omega), e (2 + 2 * t) 2 (by simp [iq_sx]; omega), e 79 t (by simp [iq_sx]), e 80 t (by simp [iq_sx])]
    refine ⟨z.1, z.2.1, z.2.2.1, z.2.2.2.1, fun k a b => ?_⟩
    rw [el (3 + 2 * t) k (by simp [iq_sx]; omega), el 81 _ (by simp [iq_sx])]
    exact z.2.2.2.2 k a b
  · unfold iq_TP
    rw [e 10 1 (by decide), e 77 9 (by decide)]
    refine ⟨i6.1, i6.2.1, fun k a b => ?_⟩
    rw [e 11 k (by simp [iq_sx]), e 82 k (by simp [iq_sx])]
    exact i6.2.2 k a b
  · unfold iq_LF
    rw [e 40 8 (by decide), e 77 54 (by decide), e 40 13 (by decide), e 40 14 (by decide), e 102 4 (by decide), e 77 47 (by decide)]
    refine ⟨i8.1, i8.2.1, i8.2.2.1, fun n => ?_⟩
    obtain ⟨y1, y2, y3, y4, y5⟩ := i8.2.2.2 n
    refine ⟨fun i a b => ?_, y2, y3, y4, fun k a b c => ?_⟩
    · rw [e 102 i (by simp [iq_sx]), e 40 (10 + i) (by simp [iq_sx]; omega)]; exact y1 i a b
    · rw [e 105 k (by simp [iq_sx]), e 43 k (by simp [iq_sx])]; exact y5 k a b c
