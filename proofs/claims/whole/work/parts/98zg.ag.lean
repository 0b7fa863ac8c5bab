/-! The law: what a case keeps, piece by piece. -/
def sf_ag (g : iq_I) (l : iq_J) (g' : iq_I) (l' : iq_J) (j : Nat) (k : Int) : Prop := g' j k = g j k ∧ l' j k = l j k
def sf_MKs (g : iq_I) (l : iq_J) : Prop := (g 0 18 = g 77 55 ∧ 0 ≤ g 0 18 ∧ g 0 18 ≤ 3) ∧ (∀ k : Nat, (k : Int) < g 0 18 → iq_SR g l (53 + 8 * k) (54 + 8 * k) (55 + 8 * k) (460 * (k + 1)) ∧ sf_SJ g (56 + 8 * k) (460 * (k + 1)))
theorem sf_I0.of {g : iq_I} {l : iq_J} (a : iq_SR g l 23 24 25 0) (b : sf_SJ g 26 0) (c : sf_MKs g l) (e : iq_TR g l) (f : iq_TP g) (d : g 10 7 = g 77 15 ∧ g 10 8 = g 77 16) (h : iq_LF g) : sf_I0 g l := ⟨a, b, c.1, c.2, e, f, d, h⟩
theorem sf_I0.mks {g : iq_I} {l : iq_J} (h : sf_I0 g l) : sf_MKs g l := ⟨h.2.2.1, h.2.2.2.1⟩
theorem sf_I0.tr {g : iq_I} {l : iq_J} (h : sf_I0 g l) : iq_TR g l := h.2.2.2.2.1
theorem sf_I0.tp {g : iq_I} {l : iq_J} (h : sf_I0 g l) : iq_TP g := h.2.2.2.2.2.1
theorem sf_I0.ft {g : iq_I} {l : iq_J} (h : sf_I0 g l) : g 10 7 = g 77 15 ∧ g 10 8 = g 77 16 := h.2.2.2.2.2.2.1
theorem sf_I0.lf {g : iq_I} {l : iq_J} (h : sf_I0 g l) : iq_LF g := h.2.2.2.2.2.2.2
theorem sf_kA {g g' : iq_I} {l l' : iq_J} (h : iq_SR g l 23 24 25 0) (e : ∀ (j : Nat) (k : Int), ((23 ≤ j ∧ j ≤ 25) ∨ (j = 78 ∧ 0 ≤ k ∧ k < 92 ∧ ¬ k = 10)) → sf_ag g l g' l' j k) : iq_SR g' l' 23 24 25 0 := by
  have e23 : g' 23 = g 23 := funext (fun k => (e 23 k (by omega)).1)
  have e24 : g' 24 = g 24 := funext (fun k => (e 24 k (by omega)).1)
  have e25 : g' 25 = g 25 := funext (fun k => (e 25 k (by omega)).1)
  have l23 : l' 23 = l 23 := funext (fun k => (e 23 k (by omega)).2)
  have e78 : ∀ k : Int, 0 ≤ k → k < 92 → ¬ k = 10 → g' 78 k = g 78 k := fun k a b c => (e 78 k (by omega)).1
  obtain ⟨s1, s2, s3, s4, s5, s6, s7⟩ := h
  unfold iq_SR
  rw [e24, e23, e25, l23]
  refine ⟨s1, fun k a b => ?_, s3, s4, fun t a b => ?_, ⟨s6.1, s6.2.1, ?_⟩, fun k a b => ?_⟩
  · rw [e78 _ (by omega) (by omega) (by omega)]; exact s2 k a b
  · rw [e78 _ (by omega) (by omega) (by omega)]; exact s5 t a b
  · rw [e78 _ (by omega) (by omega) (by omega)]; exact s6.2.2
  · have := s6.2.1
    rw [e78 _ (by omega) (by omega) (by omega)]; exact s7 k a b
theorem sf_SJ.d {g g' : iq_I} {b : Nat} {off : Int} (h : sf_SJ g b off) (h10 : g' 78 (off + 10) = g 78 (off + 10)) (h92 : ∀ i, 0 ≤ i → i < 360 → g' 78 (off + 92 + i) = g 78 (off + 92 + i)) (hb : ∀ j, b ≤ j → j ≤ b + 4 → g' j = g j) : sf_SJ g' b off := by
  unfold sf_SJ at h ⊢
  rw [hb b (by omega) (by omega), hb (b + 1) (by omega) (by omega), hb (b + 2) (by omega) (by omega), hb (b + 3) (by omega) (by omega), hb (b + 4) (by omega) (by omega), h10]
  refine ⟨h.1, h.2.1, fun z => ?_⟩
  obtain ⟨m, y1, y2, y3⟩ := h.2.2 z
  have m60 := y2.1
  exact ⟨m, y1, y2.dc (fun i i1 i2 => h92 i i1 (by omega)), y3⟩
theorem sf_kB {g g' : iq_I} {l l' : iq_J} (h : sf_SJ g 26 0) (e : ∀ (j : Nat) (k : Int), ((26 ≤ j ∧ j ≤ 30) ∨ (j = 78 ∧ (k = 10 ∨ (92 ≤ k ∧ k < 452)))) → sf_ag g l g' l' j k) : sf_SJ g' 26 0 :=
  h.d (e 78 (0 + 10) (by omega)).1 (fun i a b => (e 78 (0 + 92 + i) (by omega)).1) (fun j a b => funext (fun k => (e j k (by omega)).1))
theorem sf_kC {g g' : iq_I} {l l' : iq_J} (h : sf_MKs g l) (e : ∀ (j : Nat) (k : Int), ((53 ≤ j ∧ j ≤ 76) ∨ (j = 78 ∧ 460 ≤ k ∧ k < 1840) ∨ (j = 0 ∧ k = 18) ∨ (j = 77 ∧ k = 55)) → sf_ag g l g' l' j k) : sf_MKs g' l' := by
  have w : ∀ j : Nat, 53 ≤ j → j ≤ 76 → g' j = g j ∧ l' j = l j := fun j a b => ⟨funext (fun k => (e j k (by omega)).1), funext (fun k => (e j k (by omega)).2)⟩
  unfold sf_MKs at h ⊢
  rw [(e 0 18 (by omega)).1, (e 77 55 (by omega)).1]
  refine ⟨h.1, fun k hk => ?_⟩
  have z := h.2 k hk
  have k3 : k < 3 := by have := h.1.2.2; omega
  exact ⟨sf_SRc z.1 (fun i a b => (e 78 _ (by omega)).1) (w _ (by omega) (by omega)) (w _ (by omega) (by omega)).1 (w _ (by omega) (by omega)).1, z.2.c (fun i a b => (e 78 _ (by omega)).1) (fun j a b => (w j (by omega) (by omega)).1)⟩
theorem sf_kE {g g' : iq_I} {l l' : iq_J} (h : iq_TR g l) (e : ∀ (j : Nat) (k : Int), ((2 ≤ j ∧ j ≤ 9) ∨ (79 ≤ j ∧ j ≤ 81)) → sf_ag g l g' l' j k) : iq_TR g' l' := by
  intro t ht
  have z := h t ht
  rw [(e (2 + 2 * t) 1 (by omega)).1, (e (2 + 2 * t) 2 (by omega)).1, (e 79 t (by omega)).1, (e 80 t (by omega)).1]
  refine ⟨z.1, z.2.1, z.2.2.1, z.2.2.2.1, fun k a b => ?_⟩
  rw [(e (3 + 2 * t) k (by omega)).2, (e 81 (60 * t + k) (by omega)).2]
  exact z.2.2.2.2 k a b
theorem sf_kF {g g' : iq_I} {l l' : iq_J} (h : iq_TP g) (e : ∀ (j : Nat) (k : Int), (j = 11 ∨ j = 82 ∨ (j = 10 ∧ k = 1) ∨ (j = 77 ∧ k = 9)) → sf_ag g l g' l' j k) : iq_TP g' := by
  unfold iq_TP at h ⊢
  rw [(e 10 1 (by omega)).1, (e 77 9 (by omega)).1]
  refine ⟨h.1, h.2.1, fun k a b => ?_⟩
  rw [(e 11 k (by omega)).1, (e 82 k (by omega)).1]
  exact h.2.2 k a b
theorem sf_kG {g g' : iq_I} {l l' : iq_J} (h : g 10 7 = g 77 15 ∧ g 10 8 = g 77 16) (e : ∀ (j : Nat) (k : Int), ((j = 10 ∧ (k = 7 ∨ k = 8)) ∨ (j = 77 ∧ (k = 15 ∨ k = 16))) → sf_ag g l g' l' j k) : g' 10 7 = g' 77 15 ∧ g' 10 8 = g' 77 16 := by
  rw [(e 10 7 (by omega)).1, (e 10 8 (by omega)).1, (e 77 15 (by omega)).1, (e 77 16 (by omega)).1]
  exact h
theorem sf_kH {g g' : iq_I} {l l' : iq_J} (h : iq_LF g) (e : ∀ (j : Nat) (k : Int), ((j = 40 ∧ (k = 8 ∨ (10 ≤ k ∧ k ≤ 14))) ∨ j = 43 ∨ j = 102 ∨ j = 105 ∨ (j = 77 ∧ (k = 47 ∨ k = 54))) → sf_ag g l g' l' j k) : iq_LF g' := by
  unfold iq_LF at h ⊢
  rw [(e 40 8 (by omega)).1, (e 77 54 (by omega)).1, (e 40 13 (by omega)).1, (e 40 14 (by omega)).1, (e 102 4 (by omega)).1, (e 77 47 (by omega)).1]
  refine ⟨h.1, h.2.1, h.2.2.1, fun n => ?_⟩
  obtain ⟨y1, y2, y3, y4, y5⟩ := h.2.2.2 n
  refine ⟨fun i a b => ?_, y2, y3, y4, fun k a b c => ?_⟩
  · rw [(e 102 i (by omega)).1, (e 40 (10 + i) (by omega)).1]; exact y1 i a b
  · rw [(e 105 k (by omega)).1, (e 43 k (by omega)).1]; exact y5 k a b c
/-- the cells that count -/
def sf_kc (j : Nat) (k : Int) : Prop := (2 ≤ j ∧ j ≤ 9) ∨ (j = 10 ∧ (k = 1 ∨ k = 7 ∨ k = 8)) ∨ j = 11 ∨ (23 ≤ j ∧ j ≤ 30) ∨ (j = 40 ∧ (k = 8 ∨ (10 ≤ k ∧ k ≤ 14))) ∨ j = 43 ∨ (53 ≤ j ∧ j ≤ 76) ∨ (j = 0 ∧ k = 18) ∨ (j = 77 ∧ (k = 9 ∨ k = 15 ∨ k = 16 ∨ k = 47 ∨ k = 54 ∨ k = 55)) ∨ (j = 78 ∧ k < 1840) ∨ (79 ≤ j ∧ j ≤ 82) ∨ j = 102 ∨ j = 105
theorem sf_kcs {j : Nat} {k : Int} (h : sf_kc j k) : iq_sx j k = false := by
  rcases h with h | h | h | h | h | h | h | h | h | h | h | h | h
  all_goals first
    | (simp [iq_sx]; omega)
    | (simp [iq_sx, h]; done)
    | (simp [iq_sx, h]; omega)
theorem sf_kcn {j : Nat} {k : Int} (h : sf_kc j k) : ¬ (j = 0 ∧ (k = 0 ∨ k = 1 ∨ k = 2)) ∧ ¬ (j = 77 ∧ (k = 1 ∨ k = 2 ∨ k = 3)) := by
  rcases h with h | h | h | h | h | h | h | h | h | h | h | h | h <;> omega
theorem sf_kcA {j : Nat} {k : Int} (z : (23 ≤ j ∧ j ≤ 25) ∨ (j = 78 ∧ 0 ≤ k ∧ k < 92 ∧ ¬ k = 10)) : sf_kc j k := by
  unfold sf_kc
  rcases z with z | z
  · exact (.inr (.inr (.inr (.inl ⟨by omega, by omega⟩))))
  · exact (.inr (.inr (.inr (.inr (.inr (.inr (.inr (.inr (.inr (.inl ⟨by omega, by omega⟩))))))))))
theorem sf_kcB {j : Nat} {k : Int} (z : (26 ≤ j ∧ j ≤ 30) ∨ (j = 78 ∧ (k = 10 ∨ (92 ≤ k ∧ k < 452)))) : sf_kc j k := by
  unfold sf_kc
  rcases z with z | z
  · exact (.inr (.inr (.inr (.inl ⟨by omega, by omega⟩))))
  · exact (.inr (.inr (.inr (.inr (.inr (.inr (.inr (.inr (.inr (.inl ⟨by omega, by omega⟩))))))))))
theorem sf_kcC {j : Nat} {k : Int} (z : (53 ≤ j ∧ j ≤ 76) ∨ (j = 78 ∧ 460 ≤ k ∧ k < 1840) ∨ (j = 0 ∧ k = 18) ∨ (j = 77 ∧ k = 55)) : sf_kc j k := by
  unfold sf_kc
  rcases z with z | z | z | z
  · exact (.inr (.inr (.inr (.inr (.inr (.inr (.inl z)))))))
  · exact (.inr (.inr (.inr (.inr (.inr (.inr (.inr (.inr (.inr (.inl ⟨by omega, by omega⟩))))))))))
  · exact (.inr (.inr (.inr (.inr (.inr (.inr (.inr (.inl z))))))))
  · exact (.inr (.inr (.inr (.inr (.inr (.inr (.inr (.inr (.inl ⟨by omega, by omega⟩)))))))))
theorem sf_kcE {j : Nat} {k : Int} (z : (2 ≤ j ∧ j ≤ 9) ∨ (79 ≤ j ∧ j ≤ 81)) : sf_kc j k := by
  unfold sf_kc
  rcases z with z | z
  · exact (.inl z)
  · exact (.inr (.inr (.inr (.inr (.inr (.inr (.inr (.inr (.inr (.inr (.inl ⟨by omega, by omega⟩)))))))))))
theorem sf_kcF {j : Nat} {k : Int} (z : j = 11 ∨ j = 82 ∨ (j = 10 ∧ k = 1) ∨ (j = 77 ∧ k = 9)) : sf_kc j k := by
  unfold sf_kc
  rcases z with z | z | z | z
  · exact (.inr (.inr (.inl z)))
  · exact (.inr (.inr (.inr (.inr (.inr (.inr (.inr (.inr (.inr (.inr (.inl ⟨by omega, by omega⟩)))))))))))
  · exact (.inr (.inl ⟨by omega, by omega⟩))
  · exact (.inr (.inr (.inr (.inr (.inr (.inr (.inr (.inr (.inl ⟨by omega, by omega⟩)))))))))
theorem sf_kcG {j : Nat} {k : Int} (z : (j = 10 ∧ (k = 7 ∨ k = 8)) ∨ (j = 77 ∧ (k = 15 ∨ k = 16))) : sf_kc j k := by
  unfold sf_kc
  rcases z with z | z
  · exact (.inr (.inl ⟨by omega, by omega⟩))
  · exact (.inr (.inr (.inr (.inr (.inr (.inr (.inr (.inr (.inl ⟨by omega, by omega⟩)))))))))
theorem sf_kcH {j : Nat} {k : Int} (z : (j = 40 ∧ (k = 8 ∨ (10 ≤ k ∧ k ≤ 14))) ∨ j = 43 ∨ j = 102 ∨ j = 105 ∨ (j = 77 ∧ (k = 47 ∨ k = 54))) : sf_kc j k := by
  unfold sf_kc
  rcases z with z | z | z | z | z
  · exact (.inr (.inr (.inr (.inr (.inl z)))))
  · exact (.inr (.inr (.inr (.inr (.inr (.inl z))))))
  · exact (.inr (.inr (.inr (.inr (.inr (.inr (.inr (.inr (.inr (.inr (.inr (.inl z))))))))))))
  · exact (.inr (.inr (.inr (.inr (.inr (.inr (.inr (.inr (.inr (.inr (.inr (.inr z))))))))))))
  · exact (.inr (.inr (.inr (.inr (.inr (.inr (.inr (.inr (.inl ⟨by omega, by omega⟩)))))))))
theorem sf_ag2 {M1 M2 : Nat → Int → Bool} {g g1 g2 : iq_I} {l l1 l2 : iq_J} (k1 : iq_KM M1 g l g1 l1) (k2 : iq_KM M2 g1 l1 g2 l2) (j : Nat) (k : Int) (a : sf_kc j k) (b : M1 j k = false) (c : M2 j k = false) : sf_ag g l g2 l2 j k :=
  ⟨by rw [(k2.1 j k (sf_kcs a) c).1, (k1.1 j k (sf_kcs a) b).1], by rw [(k2.1 j k (sf_kcs a) c).2, (k1.1 j k (sf_kcs a) b).2]⟩
theorem sf_agf {g g1 : iq_I} {l l1 : iq_J} (k1 : iq_KF g l g1 l1) (j : Nat) (k : Int) (a : sf_kc j k) : sf_ag g l g1 l1 j k := ⟨iq_co_at k1.1 (sf_kcs a), iq_co_at k1.2 (sf_kcs a)⟩
/-- all kept -/
theorem sf_I0.all {g g' : iq_I} {l l' : iq_J} (i : sf_I0 g l) (e : ∀ (j : Nat) (k : Int), sf_kc j k → sf_ag g l g' l' j k) : sf_I0 g' l' :=
  .of (sf_kA i.1 (fun j k z => e j k (sf_kcA z))) (sf_kB i.2.1 (fun j k z => e j k (sf_kcB z))) (sf_kC i.mks (fun j k z => e j k (sf_kcC z))) (sf_kE i.tr (fun j k z => e j k (sf_kcE z))) (sf_kF i.tp (fun j k z => e j k (sf_kcF z))) (sf_kG i.ft (fun j k z => e j k (sf_kcG z))) (sf_kH i.lf (fun j k z => e j k (sf_kcH z)))
theorem sf_INV.of2 {M1 M2 : Nat → Int → Bool} {g g1 g2 : iq_I} {l l1 l2 : iq_J} (h : sf_INV g l) (k1 : iq_KM M1 g l g1 l1) (k2 : iq_KM M2 g1 l1 g2 l2) {s : Int} (e1 : g1 0 0 = s) (e2 : g2 0 0 = g1 0 0) (e3 : g2 77 1 = s) (i : sf_I0 g2 l2) : sf_INV g2 l2 := by
  refine ⟨i, by rw [e2, e1, e3], ?_, ?_⟩
  · rw [k2.2.1, k1.2.1, k2.2.2.2.1, k1.2.2.2.1]; exact h.2.2.1
  · rw [k2.2.2.1, k1.2.2.1, k2.2.2.2.2, k1.2.2.2.2]; exact h.2.2.2
theorem sf_INV.qf {g g1 g2 : iq_I} {l l1 l2 : iq_J} (h : sf_INV g l) (k1 : iq_KF g l g1 l1) (k2 : iq_KF g1 l1 g2 l2) {s : Int} {x y : Int64} (e1 : g1 0 0 = s) (e2 : g2 0 0 = g1 0 0) (e3 : g2 77 1 = s) (f1 : l1 0 1 = x) (f2 : l1 0 2 = y) (m1 : l2 77 2 = x) (m2 : l2 77 3 = y) (m3 : l2 0 1 = l1 0 1) (m4 : l2 0 2 = l1 0 2) : sf_INV g2 l2 := by
  refine ⟨h.1.all (fun j k z => ?_), by rw [e2, e1, e3], by rw [m3, f1, m1], by rw [m4, f2, m2]⟩
  have a := sf_agf k1 j k z
  have b := sf_agf k2 j k z
  exact ⟨by rw [b.1, a.1], by rw [b.2, a.2]⟩
theorem sf_kfc {g g1 : iq_I} {l l1 : iq_J} (k1 : iq_KF g l g1 l1) : g1 23 = g 23 ∧ g1 24 = g 24 ∧ g1 25 = g 25 ∧ l1 23 = l 23 :=
  ⟨funext (fun k => (sf_agf k1 23 k (sf_kcA (.inl ⟨by omega, by omega⟩))).1), funext (fun k => (sf_agf k1 24 k (sf_kcA (.inl ⟨by omega, by omega⟩))).1), funext (fun k => (sf_agf k1 25 k (sf_kcA (.inl ⟨by omega, by omega⟩))).1), funext (fun k => (sf_agf k1 23 k (sf_kcA (.inl ⟨by omega, by omega⟩))).2)⟩
theorem sf_kfA {g g1 : iq_I} {l l1 : iq_J} (k1 : iq_KF g l g1 l1) (h : iq_SR g l 23 24 25 0) : iq_SR g1 l1 23 24 25 0 := sf_kA h (fun j k z => sf_agf k1 j k (sf_kcA z))
/-- a case's last step -/
theorem sf_cl {a b : Int} {A B : Prop} (e : a = b) (q : A) : (-2147483648 ≤ sf_w32 a ∧ sf_w32 a ≤ 2147483647 ∧ -2147483648 ≤ sf_w32 b ∧ sf_w32 b ≤ 2147483647) ∧ (sf_w32 a = sf_w32 b → A) ∧ (¬ sf_w32 a = sf_w32 b → B) := by
  subst e
  exact ⟨⟨(sf_w32R _).1, (sf_w32R _).2, sf_w32R _⟩, fun _ => q, fun z => absurd rfl z⟩
theorem sf_lc0 (x : Int64) : iq_lc x x = 0 := by
  rw [iq_lcv, if_neg (by omega), if_pos rfl]
theorem sf_cll {a b : Int64} {A B : Prop} (e : a = b) (q : A) : (-2147483648 ≤ iq_lc a b ∧ iq_lc a b ≤ 2147483647) ∧ (iq_lc a b = (0 : Int) → A) ∧ (¬ iq_lc a b = (0 : Int) → B) := by
  subst e
  rw [sf_lc0]
  exact ⟨by omega, fun _ => q, fun z => absurd rfl z⟩
theorem sf_Mcf {j : Nat} {k : Int} (h : ¬ (23 ≤ j ∧ j ≤ 25)) : iq_Mc j k = false := by
  rcases hb : iq_Mc j k with _ | _
  · rfl
  · exfalso; simp [iq_Mc] at hb; omega
theorem sf_Mmf {j : Nat} {k : Int} (h : ¬ (j = 78 ∧ 0 ≤ k ∧ k < 92 ∧ ¬ k = 10)) : iq_Mm j k = false := by
  rcases hb : iq_Mm j k with _ | _
  · rfl
  · exfalso; simp [iq_Mm] at hb; omega
theorem sf_INV.qs {g g1 g2 : iq_I} {l l1 l2 : iq_J} {P : Int → Int} {S : Int64} {m : Int} {R : Int → Int} (h : sf_INV g l) (k1 : iq_KM iq_Mc g l g1 l1) (k2 : iq_KM iq_Mm g1 l1 g2 l2) (c : iq_CZ g1 l1 23 24 25 P S m R) (d : iq_MS g2 0 P S m R) {s : Int} (e1 : g1 0 0 = s) (e2 : g2 0 0 = g1 0 0) (e3 : g2 77 1 = s) : sf_INV g2 l2 := by
  have i := h.1
  have e : ∀ (j : Nat) (k : Int), sf_kc j k → ¬ (23 ≤ j ∧ j ≤ 25) → ¬ (j = 78 ∧ 0 ≤ k ∧ k < 92 ∧ ¬ k = 10) → sf_ag g l g2 l2 j k := fun j k a b c => sf_ag2 k1 k2 j k a (sf_Mcf b) (sf_Mmf c)
  exact h.of2 k1 k2 e1 e2 e3 (.of (iq_SR.of (c.keep k2) d) (sf_kB i.2.1 (fun j k z => e j k (sf_kcB z) (by omega) (by omega))) (sf_kC i.mks (fun j k z => e j k (sf_kcC z) (by omega) (by omega))) (sf_kE i.tr (fun j k z => e j k (sf_kcE z) (by omega) (by omega))) (sf_kF i.tp (fun j k z => e j k (sf_kcF z) (by omega) (by omega))) (sf_kG i.ft (fun j k z => e j k (sf_kcG z) (by omega) (by omega))) (sf_kH i.lf (fun j k z => e j k (sf_kcH z) (by omega) (by omega))))
