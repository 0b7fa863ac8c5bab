/-! The law's cases: live and mean. -/
def sf_Jq (X : iq_I) : Prop := X 0 8 = 1 ∧ (X 0 14 = 0 ∨ X 0 14 = 1)
theorem sf_Ju {X : iq_I} {j : Nat} {i v : Int} (h : sf_Jq X) (hn : ¬ (j = 0 ∧ (i = 8 ∨ i = 14))) : sf_Jq (iq_uz X j i v) := by
  have a : iq_uz X j i v 0 8 = X 0 8 := by unfold iq_uz; rw [if_neg (by omega)]
  have b : iq_uz X j i v 0 14 = X 0 14 := by unfold iq_uz; rw [if_neg (by omega)]
  unfold sf_Jq
  rw [a, b]
  exact h
theorem sf_Jr {X : iq_I} {j : Nat} {f : Int → Int} (h : sf_Jq X) (hn : ¬ j = 0) : sf_Jq (iq_rz X j f) := by
  have a : iq_rz X j f 0 = X 0 := by unfold iq_rz; rw [if_neg (by omega)]
  unfold sf_Jq
  rw [a]
  exact h
theorem sf_J14 {X : iq_I} {v : Int} (h : sf_Jq X) (hv : v = 0 ∨ v = 1) : sf_Jq (iq_uz X 0 14 v) := by
  have a : iq_uz X 0 14 v 0 8 = X 0 8 := by unfold iq_uz; rw [if_neg (by omega)]
  have b : iq_uz X 0 14 v 0 14 = v := by unfold iq_uz; rw [if_pos (by omega)]
  unfold sf_Jq
  rw [a, b]
  exact ⟨h.1, hv⟩
theorem sf_Jd {X : iq_I} {t : Int} (h : sf_Jq X) : sf_Jq (sf_dX X t) := by
  unfold sf_dX
  refine sf_Ju ?_ (by omega)
  split
  · exact sf_Ju h (by omega)
  · exact h
theorem sf_Je {K M : Int → Int} {X : iq_I} (h : sf_Jq X) : sf_Jq (sf_eX K M X) := by
  unfold sf_eX
  split
  · exact sf_Jd (sf_Ju h (by omega))
  · split
    · exact sf_Ju (sf_Ju h (by omega)) (by omega)
    · exact sf_Ju (sf_Ju h (by omega)) (by omega)
theorem sf_Jc {n : Int} {X : iq_I} (h : sf_Jq X) : sf_Jq (sf_cX n X) := by
  unfold sf_cX
  split
  · split
    · exact sf_Ju (sf_Ju (sf_J14 h (by omega)) (by omega)) (by omega)
    · exact sf_Ju (sf_Ju (sf_J14 h (by omega)) (by omega)) (by omega)
  · exact sf_Ju (sf_Ju (sf_J14 h (by omega)) (by omega)) (by omega)
theorem sf_Js {X : iq_I} {S : Int64} {t : Int} (h : sf_Jq X) : sf_Jq (sf_sX X S t) := by
  unfold sf_sX
  split
  · exact sf_Ju (sf_Ju (sf_Jr h (by omega)) (by omega)) (by omega)
  · exact sf_Ju h (by omega)
theorem sf_Jl {X : iq_I} {S : Int64} {t : Int} (h : sf_Jq X) : sf_Jq (sf_lX X S t) := by
  unfold sf_lX
  split
  · exact sf_Ju h (by omega)
  · exact sf_Ju h (by omega)
theorem sf_Jm {X : iq_I} {t : Int} (h : sf_Jq X) : sf_Jq (sf_mX X t) := by
  unfold sf_mX
  split
  · exact sf_Ju h (by omega)
  · exact sf_Ju h (by omega)
theorem sf_Ja {X : iq_I} {S : Int64} (h : sf_Jq X) : sf_Jq (sf_aX X S) := by
  unfold sf_aX
  split
  · exact sf_Jl (sf_Ju h (by omega))
  · exact sf_Js (sf_Ju h (by omega))
theorem sf_Jn {B : Int → Int} {X : iq_I} {b : Bool} {s w : Int} (h : sf_Jq X) : sf_Jq (sf_nX B X b s w) := by
  unfold sf_nX
  split
  · exact sf_Ju (sf_Ju (sf_Ju h (by omega)) (by omega)) (by omega)
  · exact sf_Ju h (by omega)
theorem sf_Jv {K B : Int → Int} (k : Nat) : ∀ {X : iq_I}, sf_Jq X → sf_Jq (sf_vX K B k X) := by
  induction k with
  | zero => intro X h; exact sf_Ju h (by omega)
  | succ k ih =>
    intro X h
    unfold sf_vX
    split
    · exact sf_Ju h (by omega)
    · exact ih (sf_Ju h (by omega))
theorem sf_Jo {K T M B : Int → Int} {X : iq_I} {S : Int64} {s : Int} (h : sf_Jq X) : sf_Jq (sf_oX K T M B X S s) := by
  unfold sf_oX
  split
  · exact sf_Js h
  split
  · exact sf_Jl h
  split
  · exact sf_Jm h
  split
  · exact sf_Ja h
  split
  · exact sf_Jn (sf_Js h)
  split
  · split
    · exact h
    · exact sf_Ju h (by omega)
  split
  · exact sf_Jn h
  split
  · exact sf_Jv _ h
  · exact sf_Ju h (by omega)
theorem sf_Jt {n : Int} {K T M B : Int → Int} {X : iq_I} {S : Int64} (h : sf_Jq X) : sf_Jq (sf_tX n K T M B X S) := by
  unfold sf_tX
  split
  · exact sf_Je h
  split
  · unfold sf_bX
    exact sf_Jo (sf_Ju (sf_Jc h) (by omega))
  · exact sf_Jc h
theorem sf_Jp {n : Int} {K T M B : Int → Int} (f : Nat) : ∀ {X : iq_I} {S : Int64}, sf_Jq X → sf_Jq (sf_lp n K T M B f X S).1 := by
  induction f with
  | zero => intro X S h; exact h
  | succ f ih =>
    intro X S h
    unfold sf_lp
    split
    · exact ih (sf_Jt h)
    · exact h
theorem sf_Jg {K M : Int → Int} (k : Nat) : ∀ {X : iq_I} {S : Int64}, sf_Jq X → sf_Jq (sf_gX K M k X S).1 := by
  induction k with
  | zero => intro X S h; exact h
  | succ k ih =>
    intro X S h
    unfold sf_gX
    split
    · exact ih (sf_Ju (sf_Jd h) (by omega))
    · exact ih (sf_Ju h (by omega))
theorem sf_Ji (X : iq_I) (a : Int) : sf_Jq (sf_iX X a) := by
  unfold sf_iX
  have h8 : ∀ Y : iq_I, iq_uz Y 0 8 1 0 8 = 1 := fun Y => by simp [iq_uz]
  refine ⟨?_, .inl (by simp [iq_uz])⟩
  simp [iq_uz]
theorem sf_runJ (n : Int) (K T M B : Int → Int) (X : iq_I) (S : Int64) (a : Int) : sf_Jq (sf_run n K T M B X S a).1 := by
  unfold sf_run
  exact sf_Jg _ (sf_Jp _ (sf_Ji X a))
theorem sf_SJ.told {g : iq_I} (h : sf_SJ g 26 0) : g 26 5 = 1 ↔ ¬ g 78 10 = -1 := by
  have a := h.1
  have b : g 26 5 = 0 ↔ g 78 10 = -1 := h.2.1
  omega
theorem sf_SJ.hs {g : iq_I} (h : sf_SJ g 26 0) : ∃ (D : Int → Int) (m : Nat), ¬ g 78 10 = -1 → g 78 10 = m ∧ sf_PV D m (g 26 4) (g 27) (g 28) (g 29) (g 30) ∧ sf_GP (g 26 4) (g 27) (g 28) (g 29) (g 30) ∧ (∀ i, 0 ≤ i → i < 360 → g 78 (92 + i) = D i) := by
  by_cases c : g 26 5 = 1
  · obtain ⟨m, y1, y2, y3⟩ := h.2.2 c
    exact ⟨fun i => g 78 (0 + 92 + i), m, fun _ => ⟨y1, y2, y3, fun i _ _ => by show g 78 (92 + i) = g 78 (0 + 92 + i); rw [Int.zero_add]⟩⟩
  · exact ⟨fun _ => 0, 0, fun z => absurd (h.told.mpr z) c⟩
theorem sf_Mlf {j : Nat} {k : Int} (h : ¬ ((23 ≤ j ∧ j ≤ 25) ∨ j = 40 ∨ j = 43)) : iq_Ml j k = false := by
  rcases hb : iq_Ml j k with _ | _
  · rfl
  · exfalso; simp [iq_Ml] at hb; omega
theorem sf_Mkf {j : Nat} {k : Int} (h : ¬ ((j = 78 ∧ 0 ≤ k ∧ k < 92 ∧ ¬ k = 10) ∨ j = 102 ∨ j = 105 ∨ (j = 77 ∧ (k = 47 ∨ k = 54)))) : iq_Mk j k = false := by
  rcases hb : iq_Mk j k with _ | _
  · rfl
  · exfalso; simp [iq_Mk] at hb; omega
theorem sf_lvI {g g1 g2 : iq_I} {l l1 l2 : iq_J} {X : iq_I} {S : Int64} {n : Int} (h : sf_INV g l) (k1 : iq_KM iq_Ml g l g1 l1) (k2 : iq_KM iq_Mk g1 l1 g2 l2) (c1 : sf_LC g1 l1 n X S) (m2 : sf_LM g2 X S) (j : sf_Jq X) {s : Int} (e1 : g1 0 0 = s) (e2 : g2 0 0 = g1 0 0) (e3 : g2 77 1 = s) : sf_INV g2 l2 := by
  have i := h.1
  obtain ⟨c1, c2, c3, c4⟩ := c1
  obtain ⟨m1, m3, m4, m5, m6⟩ := m2
  have e : ∀ (j : Nat) (k : Int), sf_kc j k → ¬ ((23 ≤ j ∧ j ≤ 25) ∨ j = 40 ∨ j = 43) → ¬ ((j = 78 ∧ 0 ≤ k ∧ k < 92 ∧ ¬ k = 10) ∨ j = 102 ∨ j = 105 ∨ (j = 77 ∧ (k = 47 ∨ k = 54))) → sf_ag g l g2 l2 j k := fun j k a b d => sf_ag2 k1 k2 j k a (sf_Mlf b) (sf_Mkf d)
  have y : ∀ (j : Nat) (k : Int), sf_kc j k → ¬ ((j = 78 ∧ 0 ≤ k ∧ k < 92 ∧ ¬ k = 10) ∨ j = 102 ∨ j = 105 ∨ (j = 77 ∧ (k = 47 ∨ k = 54))) → sf_ag g1 l1 g2 l2 j k := fun j k a d => k2.1 j k (sf_kcs a) (sf_Mkf d)
  have y4 : ∀ k : Int, (k = 8 ∨ (10 ≤ k ∧ k ≤ 14)) → g2 40 k = X 0 k := fun k z => by rw [(y 40 k (sf_kcH (by omega)) (by omega)).1, c2]
  have y3 : ∀ k : Int, g2 43 k = X 3 k := fun k => by rw [(y 43 k (sf_kcH (by omega)) (by omega)).1, c3]
  refine h.of2 k1 k2 e1 e2 e3 (.of (iq_SR.of (sf_CZk c1 (fun j k z => y j k (sf_kcA (.inl z)) (by omega))) m1.2) (sf_kB i.2.1 (fun j k z => e j k (sf_kcB z) (by omega) (by omega))) (sf_kC i.mks (fun j k z => e j k (sf_kcC z) (by omega) (by omega))) (sf_kE i.tr (fun j k z => e j k (sf_kcE z) (by omega) (by omega))) (sf_kF i.tp (fun j k z => e j k (sf_kcF z) (by omega) (by omega))) (sf_kG i.ft (fun j k z => e j k (sf_kcG z) (by omega) (by omega))) ?_)
  have j8 := j.1
  have j14 := j.2
  have gx := c4.2.2.2.2.2.2.1
  have gl := c4.2.2.2.2.2.2.2
  have v8 := y4 8 (by omega)
  have v13 := y4 13 (by omega)
  have v14 := y4 14 (by omega)
  have w4 : g2 102 4 = X 0 14 := m3 4 (by omega) (by omega)
  refine ⟨⟨by omega, by omega⟩, by omega, fun z => by omega, fun _ => ⟨fun k a b => ?_, ⟨by omega, ?_⟩, ?_, by omega, fun k a b c => ?_⟩⟩
  · rw [m3 k a (by omega), y4 (10 + k) (by omega)]
  · rw [w4, v14]
    split <;> omega
  · rw [m4, v13]
  · rw [v13] at b
    rw [m5 k a b c, y3 k]
    exact ⟨rfl, gl k a b c⟩
theorem sf_L61 {N : Nat} {xs : Nat → Int32} {Q : iq_T} {g : iq_I} {l : iq_J} {v3 : Int} (h : sf_INV g l) (hv : 0 ≤ v3 ∧ v3 + 5 < N ∧ (N : Int) ≤ 3072) (q : ∀ (g' : iq_I) (l' : iq_J), sf_INV g' l' → iq_P N xs 361 1940 [some (iq_r 1000000), some (iq_r 0), some (iq_r 77), some (iq_i v3)] [] g' l' Q) : iq_P N xs 361 1812 [some (iq_r 1000000), some (iq_r 0), some (iq_r 77), some (iq_i v3)] [] g l Q := by
  have hz := h.1.1.cz
  have hm := h.1.1.ms
  have sj := h.1.2.1
  have m12 := hz.1.2.2.1.2
  obtain ⟨D, m, hD⟩ := sj.hs
  refine B361_c61 _ _ _ ⟨by omega, iq_Pw (cLive hz (n := g 26 4) (K := g 27) (T := g 28) (M := g 29) (B := g 30) ⟨rfl, rfl, rfl, rfl, rfl⟩ sj.1 (fun c => (hD (sj.told.mp c)).2.2.1) (sf_xR _) (fun a b g1 l1 k1 c1 e1 => ⟨_, rfl, ?_⟩) (fun a => ⟨_, rfl, ?_⟩))⟩
  · have o : ∀ k : Int, 0 ≤ k → k < 460 → g1 78 k = g 78 k := fun k x y => (k1.1 78 k (sf_kcs (.inr (.inr (.inr (.inr (.inr (.inr (.inr (.inr (.inr (.inl ⟨rfl, by omega⟩))))))))))) (sf_Mlf (by omega))).1
    refine B361_d61 _ _ _ _ ⟨by omega, iq_Pw (mLive (X := sf_x0 g 40 (g 24) (g 23 2) (g 25)) (D := D) (m := m) (S := l 23 3) (n := g 26 4) (K := g 27) (T := g 28) (M := g 29) (B := g 30) hz.1 (sf_MSk hm m12 (fun i x y => o i x (by omega))) (fun c => ?_) (sf_xR _) (fun _ _ g2 k2 m2 e2 e3 => ⟨_, rfl, sf_cl rfl (q g2 l1 (sf_lvI h k1 k2 c1 m2 (sf_runJ _ _ _ _ _ _ _ _) e1 e2 e3))⟩) (fun a2 => absurd ⟨a, by rw [o 10 (by omega) (by omega)]; exact sj.told.mp b⟩ a2))⟩
    rw [o 10 (by omega) (by omega)] at c ⊢
    have d := hD c
    exact ⟨d.1, d.2.1, d.2.2.1, fun i x y => by rw [o _ (by omega) (by omega)]; exact d.2.2.2 i x y⟩
  · have o : ∀ (s : Int) (k : Int), (iq_uz g 0 0 s) 78 k = g 78 k := fun s k => by simp [iq_uz]
    refine B361_d61 _ _ _ _ ⟨by omega, iq_Pw (mLive (X := sf_x0 g 40 (g 24) (g 23 2) (g 25)) (D := D) (m := m) (S := l 23 3) (n := g 26 4) (K := g 27) (T := g 28) (M := g 29) (B := g 30) hz.1 (sf_MSk hm m12 (fun i x y => o _ i)) (fun c => ?_) (sf_xR _) (fun a2 b2 => absurd ⟨a2, sj.told.mpr (by rw [← o _ 10]; exact b2)⟩ a) (fun _ => ⟨_, rfl, sf_cl rfl (q _ _ (h.uu _ rfl))⟩))⟩
    rw [o] at c ⊢
    have d := hD c
    exact ⟨d.1, d.2.1, d.2.2.1, fun i x y => by rw [o]; exact d.2.2.2 i x y⟩
theorem sf_L64 {N : Nat} {xs : Nat → Int32} {Q : iq_T} {g : iq_I} {l : iq_J} {v3 : Int} (h : sf_INV g l) (hv : 0 ≤ v3 ∧ v3 + 5 < N ∧ (N : Int) ≤ 3072) (q : ∀ (g' : iq_I) (l' : iq_J), sf_INV g' l' → iq_P N xs 361 1940 [some (iq_r 1000000), some (iq_r 0), some (iq_r 77), some (iq_i v3)] [] g' l' Q) : iq_P N xs 361 1881 [some (iq_r 1000000), some (iq_r 0), some (iq_r 77), some (iq_i v3)] [] g l Q := by
  have hz := h.1.1.cz
  have hm := h.1.1.ms
  have sj := h.1.2.1
  have m12 := hz.1.2.2.1.2
  obtain ⟨D, m, hD⟩ := sj.hs
  refine B361_c64 _ _ _ ⟨by omega, by omega, iq_Pw (cMean hz (n := g 26 4) (K := g 27) (T := g 28) (M := g 29) (B := g 30) ⟨rfl, rfl, rfl, rfl, rfl⟩ sj.1 (fun c => (hD (sj.told.mp c)).2.2.1) (sf_xR _) (sf_xR _) (fun a b Xs hX g1 l1 k1 e1 f1 f2 f3 f4 => ⟨_, rfl, ?_⟩) (fun a => ⟨_, rfl, ?_⟩))⟩
  · have o : ∀ k : Int, 0 ≤ k → k < 460 → g1 78 k = g 78 k := fun k x y => (sf_agf k1 78 k (.inr (.inr (.inr (.inr (.inr (.inr (.inr (.inr (.inr (.inl ⟨rfl, by omega⟩))))))))))).1
    refine B361_d64 _ _ _ _ ⟨by omega, by omega, iq_Pw (mMean (Xs := Xs) (D := D) (m := m) (S := l 23 3) (n := g 26 4) (K := g 27) (T := g 28) (M := g 29) (B := g 30) hz.1 (sf_MSk hm m12 (fun i x y => o i x (by omega))) (fun c => ?_) hX (sf_xR _) (sf_xR _) (fun _ _ g2 l2 k2 e2 e3 m1 m2 m3 m4 => ⟨_, rfl, sf_cl rfl (q g2 l2 (h.qf k1 k2 e1 e2 e3 f1 f2 m1 m2 m3 m4))⟩) (fun a2 => absurd ⟨a, by rw [o 10 (by omega) (by omega)]; exact sj.told.mp b⟩ a2))⟩
    rw [o 10 (by omega) (by omega)] at c ⊢
    have d := hD c
    exact ⟨d.1, d.2.1, d.2.2.1, fun i x y => by rw [o _ (by omega) (by omega)]; exact d.2.2.2 i x y⟩
  · have o : ∀ (s : Int) (k : Int), (iq_uz g 0 0 s) 78 k = g 78 k := fun s k => by simp [iq_uz]
    refine B361_d64 _ _ _ _ ⟨by omega, by omega, iq_Pw (mMean (Xs := fun _ => sf_x0 g 40 (g 24) (g 23 2) (g 25)) (D := D) (m := m) (S := l 23 3) (n := g 26 4) (K := g 27) (T := g 28) (M := g 29) (B := g 30) hz.1 (sf_MSk hm m12 (fun i x y => o _ i)) (fun c => ?_) (fun _ => ⟨rfl, rfl, rfl⟩) (sf_xR _) (sf_xR _) (fun a2 b2 => absurd ⟨a2, sj.told.mpr (by rw [← o _ 10]; exact b2)⟩ a) (fun _ => ⟨_, rfl, sf_cl rfl (q _ _ (h.uu _ rfl))⟩))⟩
    rw [o] at c ⊢
    have d := hD c
    exact ⟨d.1, d.2.1, d.2.2.1, fun i x y => by rw [o]; exact d.2.2.2 i x y⟩
