/-! The law's cases: scale and studies. -/
theorem sf_CZk {g g' : iq_I} {l l' : iq_J} {P : Int → Int} {S : Int64} {m : Int} {R : Int → Int} (h : iq_CZ g l 23 24 25 P S m R) (e : ∀ (j : Nat) (k : Int), (23 ≤ j ∧ j ≤ 25) → sf_ag g l g' l' j k) : iq_CZ g' l' 23 24 25 P S m R := by
  obtain ⟨h1, h2, h3, h4, h5, h6⟩ := h
  refine ⟨h1, fun k a b => ?_, ?_, fun t => ?_, ?_, fun k a b => ?_⟩
  · rw [(e 24 k (by omega)).1]; exact h2 k a b
  · rw [(e 23 3 (by omega)).2]; exact h3
  · rw [(e 23 4 (by omega)).2]; exact h4 t
  · rw [(e 23 2 (by omega)).1]; exact h5
  · rw [(e 25 k (by omega)).1]; exact h6 k a b
theorem sf_MSk {g g' : iq_I} {P : Int → Int} {S : Int64} {m : Int} {R : Int → Int} (h : iq_MS g 0 P S m R) (hm : m ≤ 12) (e : ∀ i : Int, 0 ≤ i → i < 92 → g' 78 i = g 78 i) : iq_MS g' 0 P S m R :=
  .mk0 (fun k a b => by rw [e k (by omega) (by omega)]; exact h.p k a b) (fun t a b => by rw [e _ (by omega) (by omega)]; exact h.s t a b) (by rw [e 9 (by omega) (by omega)]; exact h.n) (fun k a b => by rw [e _ (by omega) (by omega)]; exact h.r k a b)
theorem sf_tpA {g g1 : iq_I} (tp : iq_TP g) (o9 : g1 77 9 = g 77 9) (o8 : ∀ k, g1 82 k = g 82 k) : ∀ k : Int, 0 ≤ k → k < g1 77 9 → iq_and (g1 82 k) 255 = sf_byt g k := by
  intro k a b
  unfold sf_byt
  rw [o8, tp.2.2 k a (by omega)]
theorem sf_pb78 {g g1 : iq_I} {l : iq_J} (h : iq_SR g l 23 24 25 0) (e : ∀ k : Int, 0 ≤ k → k < 9 → g1 78 k = g 78 k) : iq_pb (g1 78) := by
  have z : ∀ k : Int, 0 ≤ k → k < 9 → g1 78 k = g 24 k := fun k a b => by rw [e k a b, h.p78 k a b]
  have p := h.1
  unfold iq_pb at p ⊢
  rw [z 0 (by omega) (by omega), z 1 (by omega) (by omega), z 2 (by omega) (by omega), z 3 (by omega) (by omega), z 4 (by omega) (by omega), z 5 (by omega) (by omega), z 6 (by omega) (by omega), z 7 (by omega) (by omega), z 8 (by omega) (by omega)]
  exact p
theorem sf_Mxf {j : Nat} {k : Int} (h : ¬ ((23 ≤ j ∧ j ≤ 25) ∨ (j = 26 ∧ k = 5) ∨ (j = 10 ∧ (k = 1 ∨ k = 7 ∨ k = 8)))) : iq_Mx j k = false := by
  rcases hb : iq_Mx j k with _ | _
  · rfl
  · exfalso; simp [iq_Mx] at hb; omega
theorem sf_Myf {j : Nat} {k : Int} (h : ¬ ((j = 78 ∧ 0 ≤ k ∧ k < 460) ∨ (j = 77 ∧ (k = 9 ∨ k = 15 ∨ k = 16)))) : iq_My j k = false := by
  rcases hb : iq_My j k with _ | _
  · rfl
  · exfalso; simp [iq_My] at hb; omega
theorem sf_Mwf {j : Nat} {k : Int} (h : ¬ ((26 ≤ j ∧ j ≤ 30) ∨ (j = 10 ∧ (k = 1 ∨ k = 7 ∨ k = 8)))) : iq_Mw j k = false := by
  rcases hb : iq_Mw j k with _ | _
  · rfl
  · exfalso; simp [iq_Mw] at hb; omega
theorem sf_Mzf {j : Nat} {k : Int} (h : ¬ ((j = 78 ∧ (k = 10 ∨ (92 ≤ k ∧ k < 452))) ∨ (j = 77 ∧ (k = 9 ∨ k = 15 ∨ k = 16)))) : iq_Mz9 j k = false := by
  rcases hb : iq_Mz9 j k with _ | _
  · rfl
  · exfalso; simp [iq_Mz9] at hb; omega
theorem sf_L8 {N : Nat} {xs : Nat → Int32} {Q : iq_T} {g : iq_I} {l : iq_J} {v3 : Int} (h : sf_INV g l) (hv : 0 ≤ v3 ∧ v3 + 5 < N ∧ (N : Int) ≤ 3072) (q : ∀ (g' : iq_I) (l' : iq_J), sf_INV g' l' → iq_P N xs 361 1940 [some (iq_r 1000000), some (iq_r 0), some (iq_r 77), some (iq_i v3)] [] g' l' Q) : iq_P N xs 361 633 [some (iq_r 1000000), some (iq_r 0), some (iq_r 77), some (iq_i v3)] [] g l Q := by
  have tp := h.1.tp
  have i := h.1
  have hf : 0 ≤ g 10 1 ∧ g 10 1 ≤ 900 := by rw [tp.1]; exact tp.2.1
  refine B361_c8 _ _ _ ⟨by omega, iq_Pw (cScale hf (sf_xR _) (fun a b g1 l1 k1 c1 s5 n1 f7 f8 e1 => ⟨_, rfl, ?_⟩) (fun a b g1 l1 k1 c1 n1 f7 f8 e1 => ⟨_, rfl, ?_⟩) (fun a => ⟨_, rfl, ?_⟩))⟩
  · have o9 : g1 77 9 = g 77 9 := (k1.1 77 9 (sf_kcs (sf_kcF (by omega))) (sf_Mxf (by omega))).1
    have o8 : ∀ k, g1 82 k = g 82 k := fun k => (k1.1 82 k (sf_kcs (sf_kcF (by omega))) (sf_Mxf (by omega))).1
    refine B361_d8 _ _ _ _ ⟨by omega, iq_Pw (mScale (A := sf_byt g) (by rw [o9]; exact tp.2.1) (sf_xR _) (sf_tpA tp o9 o8) (sf_pb78 i.1 (fun k x y => (k1.1 78 k (sf_kcs (sf_kcA (by omega))) (sf_Mxf (by omega))).1)) (fun _ _ g2 k2 m2 t10 n2 f15 f16 e2 e3 => ⟨_, rfl, sf_cl rfl (q g2 l1 ?_)⟩) (fun _ b2 => absurd b b2) (fun a2 => absurd (by rw [o9, ← tp.1]; exact a) a2))⟩
    have e : ∀ (j : Nat) (k : Int), sf_kc j k → ¬ ((23 ≤ j ∧ j ≤ 25) ∨ (j = 26 ∧ k = 5) ∨ (j = 10 ∧ (k = 1 ∨ k = 7 ∨ k = 8))) → ¬ ((j = 78 ∧ 0 ≤ k ∧ k < 460) ∨ (j = 77 ∧ (k = 9 ∨ k = 15 ∨ k = 16))) → sf_ag g l g2 l1 j k := fun j k a b d => sf_ag2 k1 k2 j k a (sf_Mxf b) (sf_Myf d)
    have y : ∀ (j : Nat) (k : Int), sf_kc j k → ¬ ((j = 78 ∧ 0 ≤ k ∧ k < 460) ∨ (j = 77 ∧ (k = 9 ∨ k = 15 ∨ k = 16))) → sf_ag g1 l1 g2 l1 j k := fun j k a d => k2.1 j k (sf_kcs a) (sf_Myf d)
    have v5 : g2 26 5 = 0 := by rw [(y 26 5 (sf_kcB (by omega)) (by omega)).1]; exact s5
    refine h.of2 k1 k2 e1 e2 e3 (.of (iq_SR.of (sf_CZk (c1 (fun _ => 0)) (fun j k z => y j k (sf_kcA (.inl z)) (by omega))) (m2 (fun _ => 0))) ⟨.inl v5, ⟨fun _ => t10, fun _ => v5⟩, fun z => by omega⟩ (sf_kC i.mks (fun j k z => e j k (sf_kcC z) (by omega) (by omega))) (sf_kE i.tr (fun j k z => e j k (sf_kcE z) (by omega) (by omega))) ?_ ?_ (sf_kH i.lf (fun j k z => e j k (sf_kcH z) (by omega) (by omega))))
    · have v : g2 10 1 = 0 := by rw [(y 10 1 (sf_kcF (by omega)) (by omega)).1]; exact n1
      exact ⟨by rw [v, n2], by omega, fun k x1 x2 => by omega⟩
    · exact ⟨by rw [(y 10 7 (sf_kcG (by omega)) (by omega)).1, f7, f15], by rw [(y 10 8 (sf_kcG (by omega)) (by omega)).1, f8, f16]⟩
  · have o9 : g1 77 9 = g 77 9 := (k1.1 77 9 (sf_kcs (sf_kcF (by omega))) (sf_Mxf (by omega))).1
    have o8 : ∀ k, g1 82 k = g 82 k := fun k => (k1.1 82 k (sf_kcs (sf_kcF (by omega))) (sf_Mxf (by omega))).1
    refine B361_d8 _ _ _ _ ⟨by omega, iq_Pw (mScale (A := sf_byt g) (by rw [o9]; exact tp.2.1) (sf_xR _) (sf_tpA tp o9 o8) (sf_pb78 i.1 (fun k x y => (k1.1 78 k (sf_kcs (sf_kcA (by omega))) (sf_Mxf (by omega))).1)) (fun _ b2 => absurd b2 b) (fun _ _ g2 k2 m2 n2 f15 f16 e2 e3 => ⟨_, rfl, sf_cl rfl (q g2 l1 ?_)⟩) (fun a2 => absurd (by rw [o9, ← tp.1]; exact a) a2))⟩
    have y : ∀ (j : Nat) (k : Int), sf_kc j k → ¬ (j = 77 ∧ (k = 9 ∨ k = 15 ∨ k = 16)) → sf_ag g1 l1 g2 l1 j k := fun j k a d => by
      by_cases c : j = 78 ∧ 0 ≤ k ∧ k < 460
      · exact ⟨by rw [c.1]; exact m2 k (by omega), rfl⟩
      · exact ⟨(k2.1 j k (sf_kcs a) (sf_Myf (by omega))).1, rfl⟩
    have x : ∀ (j : Nat) (k : Int), sf_kc j k → ¬ (j = 10 ∧ (k = 1 ∨ k = 7 ∨ k = 8)) → sf_ag g l g1 l1 j k := fun j k a d => by
      by_cases c : 23 ≤ j ∧ j ≤ 26
      · exact c1 j k c
      · exact k1.1 j k (sf_kcs a) (sf_Mxf (by omega))
    have e : ∀ (j : Nat) (k : Int), sf_kc j k → ¬ (j = 10 ∧ (k = 1 ∨ k = 7 ∨ k = 8)) → ¬ (j = 77 ∧ (k = 9 ∨ k = 15 ∨ k = 16)) → sf_ag g l g2 l1 j k := fun j k a b d => ⟨by rw [(y j k a d).1, (x j k a b).1], (x j k a b).2⟩
    refine h.of2 k1 k2 e1 e2 e3 (.of (sf_kA i.1 (fun j k z => e j k (sf_kcA z) (by omega) (by omega))) (sf_kB i.2.1 (fun j k z => e j k (sf_kcB z) (by omega) (by omega))) (sf_kC i.mks (fun j k z => e j k (sf_kcC z) (by omega) (by omega))) (sf_kE i.tr (fun j k z => e j k (sf_kcE z) (by omega) (by omega))) ?_ ?_ (sf_kH i.lf (fun j k z => e j k (sf_kcH z) (by omega) (by omega))))
    · have v : g2 10 1 = 0 := by rw [(y 10 1 (sf_kcF (by omega)) (by omega)).1]; exact n1
      exact ⟨by rw [v, n2], by omega, fun k x1 x2 => by omega⟩
    · exact ⟨by rw [(y 10 7 (sf_kcG (by omega)) (by omega)).1, f7, f15], by rw [(y 10 8 (sf_kcG (by omega)) (by omega)).1, f8, f16]⟩
  · have k1 := sf_k00 g l 1
    have o9 : (iq_uz g 0 0 1) 77 9 = g 77 9 := by simp [iq_uz]
    have o8 : ∀ k, (iq_uz g 0 0 1) 82 k = g 82 k := fun k => by simp [iq_uz]
    exact B361_d8 _ _ _ _ ⟨by omega, iq_Pw (mScale (A := sf_byt g) (by rw [o9]; exact tp.2.1) (sf_xR _) (sf_tpA tp o9 o8) (sf_pb78 i.1 (fun k _ _ => by simp [iq_uz])) (fun a2 => absurd (by rw [tp.1, ← o9]; exact a2) a) (fun a2 => absurd (by rw [tp.1, ← o9]; exact a2) a) (fun _ => ⟨_, rfl, sf_cl rfl (q _ _ (h.uu _ rfl))⟩))⟩
theorem sf_L9 {N : Nat} {xs : Nat → Int32} {Q : iq_T} {g : iq_I} {l : iq_J} {v3 : Int} (h : sf_INV g l) (hv : 0 ≤ v3 ∧ v3 + 5 < N ∧ (N : Int) ≤ 3072) (q : ∀ (g' : iq_I) (l' : iq_J), sf_INV g' l' → iq_P N xs 361 1940 [some (iq_r 1000000), some (iq_r 0), some (iq_r 77), some (iq_i v3)] [] g' l' Q) : iq_P N xs 361 656 [some (iq_r 1000000), some (iq_r 0), some (iq_r 77), some (iq_i v3)] [] g l Q := by
  have tp := h.1.tp
  have i := h.1
  have hf : 0 ≤ g 10 1 ∧ g 10 1 ≤ 900 := by rw [tp.1]; exact tp.2.1
  refine B361_c9 _ _ _ ⟨by omega, iq_Pw (cStudies hf (sf_xR _) (fun a b g1 k1 pg pv gp s5 n1 f7 f8 e1 => ⟨_, rfl, ?_⟩) (fun a b g1 k1 c1 n1 f7 f8 e1 => ⟨_, rfl, ?_⟩) (fun a => ⟨_, rfl, ?_⟩))⟩
  · have o9 : g1 77 9 = g 77 9 := (k1.1 77 9 (sf_kcs (sf_kcF (by omega))) (sf_Mwf (by omega))).1
    have o8 : ∀ k, g1 82 k = g 82 k := fun k => (k1.1 82 k (sf_kcs (sf_kcF (by omega))) (sf_Mwf (by omega))).1
    refine B361_d9 _ _ _ _ ⟨by omega, iq_Pw (mStudies (A := sf_byt g) (by rw [o9]; exact tp.2.1) (sf_xR _) (sf_tpA tp o9 o8) (fun _ _ g2 k2 t10 m2 n2 f15 f16 e2 e3 => ⟨_, rfl, sf_cl rfl (q g2 l ?_)⟩) (fun _ b2 => absurd b b2) (fun a2 => absurd (by rw [o9, ← tp.1]; exact a) a2))⟩
    have e : ∀ (j : Nat) (k : Int), sf_kc j k → ¬ ((26 ≤ j ∧ j ≤ 30) ∨ (j = 10 ∧ (k = 1 ∨ k = 7 ∨ k = 8))) → ¬ ((j = 78 ∧ (k = 10 ∨ (92 ≤ k ∧ k < 452))) ∨ (j = 77 ∧ (k = 9 ∨ k = 15 ∨ k = 16))) → sf_ag g l g2 l j k := fun j k a b d => sf_ag2 k1 k2 j k a (sf_Mwf b) (sf_Mzf d)
    have y : ∀ (j : Nat) (k : Int), sf_kc j k → ¬ ((j = 78 ∧ (k = 10 ∨ (92 ≤ k ∧ k < 452))) ∨ (j = 77 ∧ (k = 9 ∨ k = 15 ∨ k = 16))) → g2 j k = g1 j k := fun j k a d => (k2.1 j k (sf_kcs a) (sf_Mzf d)).1
    have yb : ∀ j : Nat, 26 ≤ j ∧ j ≤ 30 → g2 j = g1 j := fun j z => funext (fun k => y j k (sf_kcB (.inl z)) (by omega))
    have v5 : g2 26 5 = 1 := by rw [yb 26 (by omega)]; exact s5
    refine h.of2 k1 k2 e1 e2 e3 (.of (sf_kA i.1 (fun j k z => e j k (sf_kcA z) (by omega) (by omega))) ⟨.inr v5, ⟨fun z => by omega, fun z => ?_⟩, fun _ => ⟨_, t10, ?_, ?_⟩⟩ (sf_kC i.mks (fun j k z => e j k (sf_kcC z) (by omega) (by omega))) (sf_kE i.tr (fun j k z => e j k (sf_kcE z) (by omega) (by omega))) ?_ ?_ (sf_kH i.lf (fun j k z => e j k (sf_kcH z) (by omega) (by omega))))
    · have z2 : g2 78 10 = -1 := z
      omega
    · rw [yb 26 (by omega), yb (26 + 1) (by omega), yb (26 + 2) (by omega), yb (26 + 3) (by omega), yb (26 + 4) (by omega), pg.1]
      exact pv.dc (fun k x1 x2 => by show g2 78 (0 + 92 + k) = _; rw [Int.zero_add]; exact m2 k x1 x2)
    · rw [yb 26 (by omega), yb (26 + 1) (by omega), yb (26 + 2) (by omega), yb (26 + 3) (by omega), yb (26 + 4) (by omega), pg.1]
      exact gp
    · have v : g2 10 1 = 0 := by rw [y 10 1 (sf_kcF (by omega)) (by omega)]; exact n1
      exact ⟨by rw [v, n2], by omega, fun k x1 x2 => by omega⟩
    · exact ⟨by rw [y 10 7 (sf_kcG (by omega)) (by omega), f7, f15], by rw [y 10 8 (sf_kcG (by omega)) (by omega), f8, f16]⟩
  · have o9 : g1 77 9 = g 77 9 := (k1.1 77 9 (sf_kcs (sf_kcF (by omega))) (sf_Mwf (by omega))).1
    have o8 : ∀ k, g1 82 k = g 82 k := fun k => (k1.1 82 k (sf_kcs (sf_kcF (by omega))) (sf_Mwf (by omega))).1
    refine B361_d9 _ _ _ _ ⟨by omega, iq_Pw (mStudies (A := sf_byt g) (by rw [o9]; exact tp.2.1) (sf_xR _) (sf_tpA tp o9 o8) (fun _ b2 => absurd b2 b) (fun _ _ g2 k2 m2 n2 f15 f16 e2 e3 => ⟨_, rfl, sf_cl rfl (q g2 l ?_)⟩) (fun a2 => absurd (by rw [o9, ← tp.1]; exact a) a2))⟩
    have y : ∀ (j : Nat) (k : Int), sf_kc j k → ¬ (j = 77 ∧ (k = 9 ∨ k = 15 ∨ k = 16)) → g2 j k = g1 j k := fun j k a d => by
      by_cases c : j = 78 ∧ (k = 10 ∨ (92 ≤ k ∧ k < 452))
      · rw [c.1]; exact m2 k (by omega)
      · exact (k2.1 j k (sf_kcs a) (sf_Mzf (by omega))).1
    have x : ∀ (j : Nat) (k : Int), sf_kc j k → ¬ (j = 10 ∧ (k = 1 ∨ k = 7 ∨ k = 8)) → g1 j k = g j k := fun j k a d => by
      by_cases c : 26 ≤ j ∧ j ≤ 30
      · rw [c1 j c]
      · exact (k1.1 j k (sf_kcs a) (sf_Mwf (by omega))).1
    have e : ∀ (j : Nat) (k : Int), sf_kc j k → ¬ (j = 10 ∧ (k = 1 ∨ k = 7 ∨ k = 8)) → ¬ (j = 77 ∧ (k = 9 ∨ k = 15 ∨ k = 16)) → sf_ag g l g2 l j k := fun j k a b d => ⟨by rw [y j k a d, x j k a b], rfl⟩
    refine h.of2 k1 k2 e1 e2 e3 (.of (sf_kA i.1 (fun j k z => e j k (sf_kcA z) (by omega) (by omega))) (sf_kB i.2.1 (fun j k z => e j k (sf_kcB z) (by omega) (by omega))) (sf_kC i.mks (fun j k z => e j k (sf_kcC z) (by omega) (by omega))) (sf_kE i.tr (fun j k z => e j k (sf_kcE z) (by omega) (by omega))) ?_ ?_ (sf_kH i.lf (fun j k z => e j k (sf_kcH z) (by omega) (by omega))))
    · have v : g2 10 1 = 0 := by rw [y 10 1 (sf_kcF (by omega)) (by omega)]; exact n1
      exact ⟨by rw [v, n2], by omega, fun k x1 x2 => by omega⟩
    · exact ⟨by rw [y 10 7 (sf_kcG (by omega)) (by omega), f7, f15], by rw [y 10 8 (sf_kcG (by omega)) (by omega), f8, f16]⟩
  · have o9 : (iq_uz g 0 0 1) 77 9 = g 77 9 := by simp [iq_uz]
    have o8 : ∀ k, (iq_uz g 0 0 1) 82 k = g 82 k := fun k => by simp [iq_uz]
    exact B361_d9 _ _ _ _ ⟨by omega, iq_Pw (mStudies (A := sf_byt g) (by rw [o9]; exact tp.2.1) (sf_xR _) (sf_tpA tp o9 o8) (fun a2 => absurd (by rw [tp.1, ← o9]; exact a2) a) (fun a2 => absurd (by rw [tp.1, ← o9]; exact a2) a) (fun _ => ⟨_, rfl, sf_cl rfl (q _ _ (h.uu _ rfl))⟩))⟩
