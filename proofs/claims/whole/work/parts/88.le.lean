/-! Studies lived, in the class: what stays true, the loop. -/
theorem sf_oX5 {K T M B : Int → Int} {X : iq_I} {S : Int64} {s : Int} (k : K s = 5) : sf_oX K T M B X S s = (if sf_so X S (T s) (M s) = true then X else iq_uz X 0 3 (B s)) := by
  unfold sf_oX
  rw [k]
  rfl
theorem sf_oS5 {K M : Int → Int} {X : iq_I} {S : Int64} {s : Int} (k : K s = 5) : sf_oS K M X S s = S := by
  unfold sf_oS
  rw [k]
  rfl
theorem sf_GX.cong {n b : Int} {X X' : iq_I} (h : sf_GX n b X) (e1 : X' 1 = X 1) (e2 : X' 2 = X 2) (e3 : X' 3 = X 3) (e0 : ∀ k, k = 2 ∨ k = 3 ∨ k = 4 ∨ k = 7 ∨ k = 9 ∨ k = 13 → X' 0 k = X 0 k) : sf_GX n b X' := by
  have z2 := e0 2 (by omega)
  have z3 := e0 3 (by omega)
  have z4 := e0 4 (by omega)
  have z7 := e0 7 (by omega)
  have z9 := e0 9 (by omega)
  have zd := e0 13 (by omega)
  unfold sf_GX at h ⊢
  rw [z2, z3, z4, z7, z9, zd, e1, e2, e3]
  exact h
theorem sf_GX.u3 {n b : Int} {X : iq_I} (h : sf_GX n b X) {v : Int} (hv : 0 ≤ v ∧ v ≤ n) : sf_GX n b (iq_uz X 0 3 v) := by
  obtain ⟨h1, h2, h3, h4, h5, h6, h7, h8⟩ := h
  exact ⟨by simpa [iq_uz] using hv, by simpa [iq_uz] using h2, by simpa [iq_uz] using h3, by simpa [iq_uz] using h4, by simpa [iq_uz] using h5, by simpa [iq_uz] using h6, by simpa [iq_uz] using h7, by simpa [iq_uz] using h8⟩
theorem sf_GX.u4 {n b : Int} {X : iq_I} (h : sf_GX n b X) {v : Int} (hv : v = 0 ∨ v = 1) : sf_GX n b (iq_uz X 0 4 v) := by
  obtain ⟨h1, h2, h3, h4, h5, h6, h7, h8⟩ := h
  exact ⟨by simpa [iq_uz] using h1, by simpa [iq_uz] using hv, by simpa [iq_uz] using h3, by simpa [iq_uz] using h4, by simpa [iq_uz] using h5, by simpa [iq_uz] using h6, by simpa [iq_uz] using h7, by simpa [iq_uz] using h8⟩
theorem sf_GX.u2 {n b : Int} {X : iq_I} (h : sf_GX n b X) {v : Int} (hv : 0 ≤ v ∧ v < 65536) : sf_GX n b (iq_uz X 0 2 v) := by
  obtain ⟨h1, h2, h3, h4, h5, h6, h7, h8⟩ := h
  exact ⟨by simpa [iq_uz] using h1, by simpa [iq_uz] using h2, by simpa [iq_uz] using h3, by simpa [iq_uz] using h4, by simpa [iq_uz] using hv, by simpa [iq_uz] using h6, by simpa [iq_uz] using h7, by simpa [iq_uz] using h8⟩
theorem sf_GX.u9 {n b : Int} {X : iq_I} (h : sf_GX n b X) {v : Int} (hv : 0 ≤ v ∧ v ≤ 300) : sf_GX n b (iq_uz X 0 9 v) := by
  obtain ⟨h1, h2, h3, h4, h5, h6, h7, h8⟩ := h
  exact ⟨by simpa [iq_uz] using h1, by simpa [iq_uz] using h2, by simpa [iq_uz] using h3, by simpa [iq_uz] using h4, by simpa [iq_uz] using h5, by simpa [iq_uz] using hv, by simpa [iq_uz] using h7, by simpa [iq_uz] using h8⟩
theorem sf_GX.u7 {n b : Int} {X : iq_I} (h : sf_GX n b X) (hd : 0 < X 0 7) : sf_GX n b (iq_uz X 0 7 (X 0 7 - 1)) := by
  obtain ⟨h1, h2, h3, h4, h5, h6, h7, h8⟩ := h
  refine ⟨by simpa [iq_uz] using h1, by simpa [iq_uz] using h2, ?_, ?_, by simpa [iq_uz] using h5, by simpa [iq_uz] using h6, by simpa [iq_uz] using h7, by simpa [iq_uz] using h8⟩
  · rw [show (iq_uz X 0 7 (X 0 7 - 1)) 0 7 = X 0 7 - 1 by simp [iq_uz]]; omega
  · rw [show (iq_uz X 0 7 (X 0 7 - 1)) 0 7 = X 0 7 - 1 by simp [iq_uz], sf_uzn X (by decide), sf_uzn X (by decide)]
    exact fun i a c => h4 i a (by omega)
theorem sf_GX.other {n b : Int} {X : iq_I} (h : sf_GX n b X) {j : Nat} {k v : Int} (hj : (j = 0 ∧ (k = 10 ∨ k = 11 ∨ k = 12 ∨ k = 14 ∨ k = 8)) ∨ 3 < j) : sf_GX n b (iq_uz X j k v) := by
  refine h.cong (sf_uzn X (by omega) _ _) (sf_uzn X (by omega) _ _) (sf_uzn X (by omega) _ _) (fun i hi => ?_)
  unfold iq_uz
  rw [if_neg (by omega)]
theorem sf_GX.up {n b b' : Int} {X : iq_I} (h : sf_GX n b X) (hb : b ≤ b') : sf_GX n b' X := by
  obtain ⟨h1, h2, h3, h4, h5, h6, h7, h8⟩ := h
  exact ⟨h1, h2, h3, h4, h5, h6, ⟨h7.1, by omega⟩, h8⟩
theorem sf_GX.drop {n b : Int} {X : iq_I} (h : sf_GX n b X) {t : Int} (ht : 0 ≤ t ∧ t ≤ 99) : sf_GX n (b + 1) (sf_dX X t) := by
  obtain ⟨h1, h2, h3, h4, h5, h6, h7, h8⟩ := h
  unfold sf_dX
  by_cases c : X 0 13 < 60
  · rw [if_pos c]
    refine ⟨by simpa [iq_uz] using h1, by simpa [iq_uz] using h2, by simpa [iq_uz] using h3, by simpa [iq_uz] using h4, by simpa [iq_uz] using h5, by simpa [iq_uz] using h6, ?_, fun k x y z => ?_⟩
    · rw [show (iq_uz (iq_uz X 3 (X 0 13) t) 0 13 (X 0 13 + 1)) 0 13 = X 0 13 + 1 by simp [iq_uz]]; omega
    · rw [show (iq_uz (iq_uz X 3 (X 0 13) t) 0 13 (X 0 13 + 1)) 0 13 = X 0 13 + 1 by simp [iq_uz]] at y
      rw [sf_uzn _ (by decide)]
      by_cases w : k = X 0 13
      · rw [w, show (iq_uz X 3 (X 0 13) t) 3 (X 0 13) = t by simp [iq_uz]]; exact ht
      · rw [show (iq_uz X 3 (X 0 13) t) 3 k = X 3 k by simp [iq_uz, w]]
        exact h8 k x (by omega) z
  · rw [if_neg c]
    refine ⟨by simpa [iq_uz] using h1, by simpa [iq_uz] using h2, by simpa [iq_uz] using h3, by simpa [iq_uz] using h4, by simpa [iq_uz] using h5, by simpa [iq_uz] using h6, ?_, fun k x y z => ?_⟩
    · rw [show (iq_uz X 0 13 (X 0 13 + 1)) 0 13 = X 0 13 + 1 by simp [iq_uz]]; omega
    · rw [sf_uzn _ (by decide)]
      exact h8 k x (by omega) z
theorem sf_GX.sX {n b : Int} {X : iq_I} (h : sf_GX n b X) (S : Int64) (t : Int) : sf_GX n b (sf_sX X S t) := by
  unfold sf_sX
  split
  · refine sf_GX.other (sf_GX.other ?_ (by omega)) (by omega)
    exact h.cong (sf_rzn X (by decide) _) (sf_rzn X (by decide) _) (sf_rzn X (by decide) _) (fun k _ => by rw [sf_rzn X (by decide)])
  · exact h.other (by omega)
theorem sf_GX.lX {n b : Int} {X : iq_I} (h : sf_GX n b X) (S : Int64) (t : Int) : sf_GX n b (sf_lX X S t) := by
  unfold sf_lX
  split
  · exact h.other (by omega)
  · exact h.other (by omega)
theorem sf_GX.mX {n b : Int} {X : iq_I} (h : sf_GX n b X) (t : Int) : sf_GX n b (sf_mX X t) := by
  unfold sf_mX
  split
  · exact h.other (by omega)
  · exact h.other (by omega)
theorem sf_GX.aX {n b : Int} {X : iq_I} (h : sf_GX n b X) (S : Int64) : sf_GX n b (sf_aX X S) := by
  unfold sf_aX
  split
  · exact (h.u2 (sf_dwR _)).lX _ _
  · exact (h.u2 (sf_dwR _)).sX _ _
theorem sf_GX.nX {n b : Int} {X : iq_I} (h : sf_GX n b X) {B : Int → Int} {c : Bool} {s w : Int} (hs : 0 ≤ s ∧ s < n) (hw : 1 ≤ w ∧ w ≤ 99) (hB : 0 ≤ B s ∧ B s ≤ n) : sf_GX n b (sf_nX B X c s w) := by
  unfold sf_nX
  split
  · next z =>
    obtain ⟨h1, h2, h3, h4, h5, h6, h7, h8⟩ := h
    refine ⟨by simpa [iq_uz] using h1, by simpa [iq_uz] using h2, ?_, fun i x y => ?_, by simpa [iq_uz] using h5, by simpa [iq_uz] using h6, by simpa [iq_uz] using h7, by simpa [iq_uz] using h8⟩
    · rw [show (iq_uz (iq_uz (iq_uz X 1 (X 0 7) s) 2 (X 0 7) w) 0 7 (X 0 7 + 1)) 0 7 = X 0 7 + 1 by simp [iq_uz]]; omega
    · rw [show (iq_uz (iq_uz (iq_uz X 1 (X 0 7) s) 2 (X 0 7) w) 0 7 (X 0 7 + 1)) 0 7 = X 0 7 + 1 by simp [iq_uz]] at y
      by_cases e : i = X 0 7
      · rw [e]; simp [iq_uz]; omega
      · have := h4 i x (by omega)
        simpa [iq_uz, e] using this
  · exact h.u3 hB
theorem sf_GX.vX {n b : Int} {K T M B : Int → Int} (hP : sf_GP n K T M B) (k : Nat) : ∀ X : iq_I, sf_GX n b X → X 0 7 = k → sf_GX n b (sf_vX K B k X) := by
  induction k with
  | zero => intro X h e; exact h.u4 (by omega)
  | succ k ih =>
    intro X h e
    rw [sf_vX]
    have ht := h.top (by omega)
    have hB := hP.2 _ ht.1.1 ht.1.2
    split
    · exact h.u3 (by omega)
    · exact ih _ (h.u7 (by omega)) (by rw [show (iq_uz X 0 7 (X 0 7 - 1)) 0 7 = X 0 7 - 1 by simp [iq_uz]]; omega)
theorem sf_GX.eX {n b : Int} {K T M B : Int → Int} (hP : sf_GP n K T M B) {X : iq_I} (h : sf_GX n b X) (hd : 0 < X 0 7) : sf_GX n (b + 1) (sf_eX K M X) := by
  have ht := h.top hd
  have hB := hP.2 _ ht.1.1 ht.1.2
  unfold sf_eX
  split
  · exact (h.u7 hd).drop (by omega)
  · have key : ∀ (Y : iq_I), (∀ j, ¬ j = 2 → Y j = X j) → (∀ i, ¬ i = X 0 7 - 1 → Y 2 i = X 2 i) → (1 ≤ Y 2 (X 0 7 - 1) ∧ Y 2 (X 0 7 - 1) ≤ 99) → sf_GX n b Y := by
      intro Y y1 y2 y3
      obtain ⟨h1, h2, h3, h4, h5, h6, h7, h8⟩ := h
      unfold sf_GX
      rw [y1 0 (by decide), y1 1 (by decide), y1 3 (by decide)]
      refine ⟨h1, h2, h3, fun i x y => ?_, h5, h6, h7, h8⟩
      by_cases e : i = X 0 7 - 1
      · rw [e]
        exact ⟨(h4 _ (by omega) (by omega)).1, y3⟩
      · rw [y2 i e]
        exact h4 i x y
    split
    · refine sf_GX.up (sf_GX.u3 (key _ (fun j hj => sf_uzn X hj _ _) (fun i hi => by simp [iq_uz, hi]) ?_) (by omega)) (by omega)
      rw [show (iq_uz X 2 (X 0 7 - 1) (X 2 (X 0 7 - 1) - 1)) 2 (X 0 7 - 1) = X 2 (X 0 7 - 1) - 1 by simp [iq_uz]]
      omega
    · obtain ⟨h1, h2, h3, h4, h5, h6, h7, h8⟩ := h
      refine ⟨by simpa [iq_uz] using h1, by simpa [iq_uz] using h2, ?_, fun i x y => ?_, by simpa [iq_uz] using h5, by simpa [iq_uz] using h6, ?_, by simpa [iq_uz] using h8⟩
      · rw [show (iq_uz (iq_uz X 2 (X 0 7 - 1) (X 2 (X 0 7 - 1) - 1)) 0 7 (X 0 7 - 1)) 0 7 = X 0 7 - 1 by simp [iq_uz]]; omega
      · rw [show (iq_uz (iq_uz X 2 (X 0 7 - 1) (X 2 (X 0 7 - 1) - 1)) 0 7 (X 0 7 - 1)) 0 7 = X 0 7 - 1 by simp [iq_uz]] at y
        have e : ¬ i = X 0 7 - 1 := by omega
        have := h4 i x (by omega)
        simpa [iq_uz, e] using this
      · have e : (iq_uz (iq_uz X 2 (X 0 7 - 1) (X 2 (X 0 7 - 1) - 1)) 0 7 (X 0 7 - 1)) 0 13 = X 0 13 := by simp [iq_uz]
        rw [e]; omega
theorem sf_GX.cX {n b : Int} {X : iq_I} (h : sf_GX n b X) : sf_GX n b (sf_cX n X) := by
  have h9 := h.2.2.2.2.2.1
  unfold sf_cX
  split
  · split
    · exact ((h.other (by omega)).u4 (by omega)).u9 (by omega)
    · exact ((h.other (by omega)).u4 (by omega)).u9 (by omega)
  · exact ((h.other (by omega)).u4 (by omega)).u9 (by omega)
theorem sf_cX3 (n : Int) (X : iq_I) : (sf_cX n X) 0 3 = X 0 3 ∧ (sf_cX n X) 0 7 = X 0 7 ∧ (sf_cX n X) 0 2 = X 0 2 := by
  unfold sf_cX
  split
  · split <;> simp [iq_uz]
  · simp [iq_uz]
theorem sf_GX.oX {n b : Int} {K T M B : Int → Int} (hP : sf_GP n K T M B) {X : iq_I} (h : sf_GX n b X) {S : Int64} {s : Int} (hs : 0 ≤ s ∧ s < n) : sf_GX n b (sf_oX K T M B X S s) := by
  have hB := hP.2 s hs.1 hs.2
  have h7 := h.2.2.1
  unfold sf_oX
  split
  · exact h.sX _ _
  split
  · exact h.lX _ _
  split
  · exact h.mX _
  split
  · exact h.aX _
  split
  · exact (h.sX _ _).nX hs (by omega) (by omega)
  split
  · split
    · exact h
    · exact h.u3 (by omega)
  split
  · exact h.nX hs (by omega) (by omega)
  split
  · exact sf_GX.vX hP _ _ h (by omega)
  · exact h.u4 (by omega)
theorem sf_GX.bX {n b : Int} {X : iq_I} (h : sf_GX n b X) (hs : X 0 3 < n) : sf_GX n b (sf_bX n X) := by
  have := h.1
  exact h.cX.u3 (by omega)
theorem sf_GX.tX {n b : Int} {K T M B : Int → Int} (hP : sf_GP n K T M B) {X : iq_I} (h : sf_GX n b X) (S : Int64) : sf_GX n (b + 1) (sf_tX n K T M B X S) := by
  have h3 := h.1
  unfold sf_tX
  split
  · next c =>
    unfold sf_ae at c
    simp only [Bool.and_eq_true, decide_eq_true_eq] at c
    exact sf_GX.eX hP h c.1
  · split
    · next c =>
      unfold sf_go at c
      simp only [Bool.and_eq_true, decide_eq_true_eq] at c
      exact ((h.bX c.1).oX hP ⟨h3.1, c.1⟩).up (by omega)
    · exact h.cX.up (by omega)
theorem sf_GX.lp {n : Int} {K T M B : Int → Int} (hP : sf_GP n K T M B) (f : Nat) : ∀ (b : Int) (X : iq_I) (S : Int64), sf_GX n b X → sf_GX n (b + f) (sf_lp n K T M B f X S).1 := by
  induction f with
  | zero => intro b X S h; exact h.up (by omega)
  | succ f ih =>
    intro b X S h
    rw [sf_lp]
    split
    · exact (ih _ _ _ (h.tX hP S)).up (by omega)
    · exact h.up (by omega)
theorem sf_GX.gX {n : Int} {K T M B : Int → Int} (hP : sf_GP n K T M B) (k : Nat) : ∀ (b : Int) (X : iq_I) (S : Int64), sf_GX n b X → X 0 7 = k → sf_GX n (b + k) (sf_gX K M k X S).1 := by
  induction k with
  | zero => intro b X S h e; exact h.up (by omega)
  | succ k ih =>
    intro b X S h e
    rw [sf_gX]
    have ht := h.top (by omega)
    have hB := hP.2 _ ht.1.1 ht.1.2
    have d7 : (sf_dX X (M (sf_top X))) 0 7 = X 0 7 := by
      unfold sf_dX
      split <;> simp [iq_uz]
    split
    · have z := h.drop (t := M (sf_top X)) (by omega)
      have z2 := z.u7 (by omega)
      rw [d7] at z2
      exact (ih _ _ _ z2 (by rw [show (iq_uz (sf_dX X (M (sf_top X))) 0 7 (X 0 7 - 1)) 0 7 = X 0 7 - 1 by simp [iq_uz]]; omega)).up (by omega)
    · exact (ih _ _ _ (h.u7 (by omega)) (by rw [show (iq_uz X 0 7 (X 0 7 - 1)) 0 7 = X 0 7 - 1 by simp [iq_uz]]; omega)).up (by omega)
theorem sp330_p_40 {N : Nat} {xs : Nat → Int32} {Q : iq_T} {g0 : iq_I} {l0 l : iq_J} {S : Int64} {n b : Int} {K T M B : Int → Int} (p0 : sf_PG g0 n K T M B) (hP : sf_GP n K T M B) (k : Nat) : ∀ (X g : iq_I) (d2 : Option iq_V), sf_H 40 23 g0 l0 g l X S → sf_GX n b X → X 0 7 = k → (∀ g' : iq_I, sf_H 40 23 g0 l0 g' l (sf_vX K B k X) S → Q none g' l) → iq_P N xs 330 5 [some (iq_r 40), some (iq_i k), d2] [] g l Q := by
  have hn := hP.1
  induction k with
  | zero =>
    intro X g d2 h hX e q
    exact B330_p5_40 _ _ _ _ ⟨by omega, fun _ => q _ (h.u0_40 4 1), fun h => by omega⟩
  | succ k ih =>
    intro X g d2 h hX e q
    have h3 := hX.2.2.1
    have ht := hX.top (by omega)
    have hB := hP.2 _ ht.1.1 ht.1.2
    obtain ⟨p1, p2, p3, p4, p5⟩ := h.pg (by decide) (by decide) p0
    rw [sf_vX] at q
    refine B330_p5_40 _ _ _ _ ⟨by omega, fun h => by omega, fun _ => sp318_40 h hX.2.2.1 ⟨_, rfl, ?_⟩⟩
    rw [if_pos (by omega)]
    refine sp118 (by omega) (by omega) (fun a c => ⟨_, rfl, by omega, fun h => by omega, fun _ => ⟨by omega, ?_⟩⟩) (fun a => by omega)
    rw [h.f_40.1, p2, p5]
    refine ⟨by omega, fun c4 => ?_, fun c4 => ⟨by omega, ?_⟩⟩
    · rw [if_neg c4] at q
      rw [show ((k + 1 : Nat) : Int) + -1 = (k : Int) by omega]
      exact ih _ _ _ (h.u0_40 7 (X 0 7 - 1)) (hX.u7 (by omega)) (by rw [show (iq_uz X 0 7 (X 0 7 - 1)) 0 7 = X 0 7 - 1 by simp [iq_uz]]; omega) q
    · rw [if_pos c4] at q
      exact q _ (h.u0_40 3 _)
theorem sp331_40 {N : Nat} {xs : Nat → Int32} {Q : iq_T} {g : iq_I} {l : iq_J} {g0 X : iq_I} {l0 : iq_J} {S : Int64} {n b s : Int} {K T M B : Int → Int} (h : sf_H 40 23 g0 l0 g l X S) (p0 : sf_PG g0 n K T M B) (hP : sf_GP n K T M B) (hX : sf_GX n b X) (hs : 0 ≤ s ∧ s < n) (q : ∀ (g' : iq_I) (l' : iq_J), sf_H 40 23 g0 l0 g' l' (sf_oX K T M B (iq_uz X 0 3 (s + 1)) S s) (sf_oS K M (iq_uz X 0 3 (s + 1)) S s) → Q none g' l') : iq_P N xs 331 0 [some (iq_r 40), some (iq_i s), none] [] g l Q := by
  have hB := hP.2 s hs.1 hs.2
  have hn := hP.1
  have pg := h.pg (by decide) (by decide) p0
  obtain ⟨p1, p2, p3, p4, p5⟩ := pg
  have h1 := h.u0_40 3 (s + 1)
  have hX1 := hX.u3 (v := s + 1) (by omega)
  have pg1 := h1.pg (by decide) (by decide) p0
  unfold sf_oX sf_oS at q
  refine B331_40 _ _ _ ⟨by omega, by omega, ?_⟩
  rw [p2, p3, p4, p5]
  refine ⟨by omega, ⟨fun k => ?_, fun k => ?_, fun k => ?_, fun k => ?_, fun k => ?_, fun k => ⟨by omega, ?_⟩, fun k => ⟨by omega, by omega, fun c => ?_, fun c => ?_⟩, fun k => ?_, trivial⟩, fun k => ?_⟩
  · rw [if_pos k, if_pos k] at q
    exact sp323_40 h1 (by omega) (fun g' l' h' => ⟨_, rfl, q g' l' h'⟩)
  · rw [if_neg (by omega), if_pos k, if_neg (by omega), if_pos k] at q
    exact sp324_40 h1 (by omega) (fun g' l' h' => ⟨rfl, q g' l' h'⟩)
  · rw [if_neg (by omega), if_neg (by omega), if_pos k, if_neg (by omega), if_neg (by omega), if_neg (by omega), if_neg (by omega)] at q
    unfold sf_mX at q
    have e : g 40 10 = (iq_uz X 0 3 (s + 1)) 0 10 := by rw [h.f_40.1]; simp [iq_uz]
    rw [e]
    refine sp325_40 h1 (by omega) (fun a g' l' h' => ⟨_, rfl, by omega, fun h => by omega, fun _ => q _ _ ?_⟩) (fun a => ⟨_, rfl, by omega, fun _ => q _ _ ?_, fun h => by omega⟩)
    · rw [if_pos a]
      have z := h'.u0_40 10 ((iq_uz X 0 3 (s + 1)) 0 10)
      rw [sf_uz0 (X := iq_uz (iq_uz X 0 3 (s + 1)) 4 5 (M s)) (by simp [iq_uz])] at z
      rw [Int.add_zero]
      exact z
    · rw [if_neg (by rw [a]; decide)]
      exact h1.u0_40 10 _
  · rw [if_neg (by omega), if_neg (by omega), if_neg (by omega), if_pos k, if_neg (by omega), if_neg (by omega), if_pos k] at q
    exact sp327_40 h1 hX1.2.2.2.2.1 (fun g' l' h' => ⟨rfl, q g' l' h'⟩)
  · rw [if_neg (by omega), if_neg (by omega), if_neg (by omega), if_neg (by omega), if_pos k, if_neg (by omega), if_neg (by omega), if_neg (by omega), if_pos k] at q
    refine sp323_40 h1 (by omega) (fun g' l' h' => ⟨_, rfl, ?_⟩)
    exact sp328_40 h' (h'.pg (by decide) (by decide) p0) (hX1.sX _ _).2.2.1 (by omega) rfl (fun g2 h2 => ⟨rfl, q g2 l' h2⟩)
  · have eX := sf_oX5 (T := T) (M := M) (B := B) (X := iq_uz X 0 3 (s + 1)) (S := S) k
    have eS := sf_oS5 (M := M) (X := iq_uz X 0 3 (s + 1)) (S := S) k
    unfold sf_oX at eX
    unfold sf_oS at eS
    rw [eX, eS] at q
    refine sp329_40 h1 (by omega) (by omega) (fun a => ⟨_, rfl, by omega, fun h => by omega, fun _ => ?_⟩) (fun a => ⟨_, rfl, by omega, fun _ => ⟨by omega, ?_⟩, fun h => by omega⟩)
    · rw [if_pos a] at q
      have z := h1.u0_40 3 (s + 1)
      rw [sf_uzz X] at z
      exact q _ _ z
    · rw [if_neg (by rw [a]; decide)] at q
      rw [pg1.2.2.2.2]
      exact q _ _ (h1.u0_40 3 _)
  · rw [if_neg (by omega), if_neg (by omega), if_neg (by omega), if_neg (by omega), if_neg (by omega), if_neg (by omega), if_pos k, if_neg (by omega), if_neg (by omega), if_neg (by omega), if_neg (by omega)] at q
    exact sp328_40 (b := decide (s + 1 < B s)) h1 pg1 hX1.2.2.1 (by omega) (by rw [if_neg (by simp; omega)]) (fun g2 h2 => ⟨rfl, q g2 l h2⟩)
  · rw [if_neg (by omega), if_neg (by omega), if_neg (by omega), if_neg (by omega), if_neg (by omega), if_neg (by omega), if_pos k, if_neg (by omega), if_neg (by omega), if_neg (by omega), if_neg (by omega)] at q
    exact sp328_40 (b := decide (s + 1 < B s)) h1 pg1 hX1.2.2.1 (by omega) (by rw [if_pos (by simp; omega)]) (fun g2 h2 => ⟨rfl, q g2 l h2⟩)
  · rw [if_neg (by omega), if_neg (by omega), if_neg (by omega), if_neg (by omega), if_neg (by omega), if_neg (by omega), if_neg (by omega), if_pos k, if_neg (by omega), if_neg (by omega), if_neg (by omega), if_neg (by omega)] at q
    have h7 := hX1.2.2.1
    refine B330_40 _ _ ?_
    rw [h1.f_40.1, show (iq_uz X 0 3 (s + 1)) 0 7 = (((iq_uz X 0 3 (s + 1)) 0 7).toNat : Int) by omega]
    exact sp330_p_40 p0 hP _ _ _ _ h1 hX1 (by omega) (fun g2 h2 => ⟨rfl, q g2 l h2⟩)
  · rw [if_neg (by omega), if_neg (by omega), if_neg (by omega), if_neg (by omega), if_neg (by omega), if_neg (by omega), if_neg (by omega), if_neg (by omega), if_neg (by omega), if_neg (by omega), if_neg (by omega), if_neg (by omega)] at q
    exact q _ _ (h1.u0_40 4 1)
theorem sp332_p_40 {N : Nat} {xs : Nat → Int32} {Q : iq_T} {g0 : iq_I} {l0 : iq_J} {n : Int} {K T M B : Int → Int} (p0 : sf_PG g0 n K T M B) (hP : sf_GP n K T M B) (k : Nat) : ∀ (X g : iq_I) (l : iq_J) (S : Int64) (b : Int) (d2 : Option iq_V), b + k ≤ 1000000 → sf_H 40 23 g0 l0 g l X S → sf_GX n b X → X 0 7 = k → (∀ (g' : iq_I) (l' : iq_J), sf_H 40 23 g0 l0 g' l' (sf_gX K M k X S).1 (sf_gX K M k X S).2 → Q none g' l') → iq_P N xs 332 5 [some (iq_r 40), some (iq_i k), d2] [] g l Q := by
  have hn := hP.1
  induction k with
  | zero =>
    intro X g l S b d2 hb h hX e q
    exact B332_p5_40 _ _ _ _ ⟨by omega, fun _ => q _ _ h, fun h => by omega⟩
  | succ k ih =>
    intro X g l S b d2 hb h hX e q
    have h3 := hX.2.2.1
    have hl := hX.2.2.2.2.2.2.1
    have ht := hX.top (by omega)
    have hB := hP.2 _ ht.1.1 ht.1.2
    have d7 : (sf_dX X (M (sf_top X))) 0 7 = X 0 7 := by
      unfold sf_dX
      split <;> simp [iq_uz]
    obtain ⟨p1, p2, p3, p4, p5⟩ := h.pg (by decide) (by decide) p0
    rw [sf_gX] at q
    refine B332_p5_40 _ _ _ _ ⟨by omega, fun h => by omega, fun _ => sp318_40 h hX.2.2.1 ⟨_, rfl, ?_⟩⟩
    rw [if_pos (by omega)]
    refine sp118 (by omega) (by omega) (fun a c => ⟨_, rfl, by omega, fun h => by omega, fun _ => ⟨by omega, ?_⟩⟩) (fun a => by omega)
    rw [h.f_40.1, p2, p4]
    rw [show ((k + 1 : Nat) : Int) + -1 = (k : Int) by omega]
    refine ⟨by omega, fun c4 => ?_, fun c4 => ⟨by omega, ?_⟩⟩
    · rw [if_neg c4] at q
      exact ih _ _ _ _ b _ (by omega) (h.u0_40 7 (X 0 7 - 1)) (hX.u7 (by omega)) (by rw [show (iq_uz X 0 7 (X 0 7 - 1)) 0 7 = X 0 7 - 1 by simp [iq_uz]]; omega) q
    · rw [if_pos c4] at q
      refine sp320_40 h (by omega) (by omega) (fun g' l' h' => ⟨rfl, ?_⟩)
      rw [h'.f_40.1, d7]
      have z := hX.drop (t := M (sf_top X)) (by omega)
      have z2 := z.u7 (by omega)
      rw [d7] at z2
      exact ih _ _ _ _ (b + 1) _ (by omega) (h'.u0_40 7 (X 0 7 - 1)) z2 (by rw [show (iq_uz (sf_dX X (M (sf_top X))) 0 7 (X 0 7 - 1)) 0 7 = X 0 7 - 1 by simp [iq_uz]]; omega) q
theorem sp333_p_40 {N : Nat} {xs : Nat → Int32} {Q : iq_T} {g0 : iq_I} {l0 : iq_J} {n a : Int} {K T M B : Int → Int} (p0 : sf_PG g0 n K T M B) (hP : sf_GP n K T M B) (f : Nat) : ∀ (X g : iq_I) (l : iq_J) (S : Int64) (w : Nat), w + f = 10000 → sf_H 40 23 g0 l0 g l X S → sf_GX n w X → (∀ (g' : iq_I) (l' : iq_J), sf_H 40 23 g0 l0 g' l' (sf_lp n K T M B f X S).1 (sf_lp n K T M B f X S).2 → iq_P N xs 332 0 [some (iq_r 40), none, none] [] g' l' (fun r g' l' => r = none ∧ Q none g' l')) → iq_P N xs 333 57 [some (iq_r 40), some (iq_i a), some (iq_i w)] [] g l Q := by
  induction f with
  | zero =>
    intro X g l S w hw h hX q
    exact B333_p57_40 _ _ _ _ ⟨by omega, fun _ => q g l h, fun h => by omega⟩
  | succ f ih =>
    intro X g l S w hw h hX q
    rw [sf_lp] at q
    have h3 := hX.1
    have h4 := hX.2.1
    have p := h.pg (by decide) (by decide) p0
    refine B333_p57_40 _ _ _ _ ⟨by omega, fun h => by omega, fun _ => ?_⟩
    rw [h.f_40.1]
    refine ⟨by omega, fun c => ?_, fun c => ?_⟩
    · rw [if_neg c] at q
      exact q g l h
    · rw [if_pos c] at q
      have hT := hX.tX hP S
      rw [show ((w : Nat) : Int) + 1 = ((w + 1 : Nat) : Int) by omega] at hT ⊢
      unfold sf_tX sf_tS at q
      unfold sf_tX at hT
      refine sp319_40 h p hP hX (fun e => ⟨_, rfl, by omega, fun h => by omega, fun _ => ?_⟩) (fun e => ⟨_, rfl, by omega, fun _ => ?_, fun h => by omega⟩)
      · rw [if_pos e, if_pos e] at q
        rw [if_pos e] at hT
        exact sp321_40 h p hP hX (by omega) e (fun g' l' h' => ⟨rfl, ih _ _ _ _ (w + 1) (by omega) h' hT q⟩)
      · have e' : ¬ sf_ae B X = true := by rw [e]; decide
        rw [if_neg e', if_neg e'] at q
        rw [if_neg e'] at hT
        refine sp322_40 h p hP hX (fun d g' h' => ⟨_, rfl, by omega, fun h => by omega, fun _ => ?_⟩) (fun d g' h' => ⟨_, rfl, by omega, fun _ => ?_, fun h => by omega⟩)
        · rw [if_pos d, if_pos d] at q
          rw [if_pos d] at hT
          rw [h'.f_40.1, (sf_cX3 n X).1]
          unfold sf_go at d
          simp only [Bool.and_eq_true, decide_eq_true_eq] at d
          exact sp331_40 h' p0 hP hX.cX ⟨h3.1, d.1⟩ (fun g2 l2 h2 => ⟨rfl, ih _ _ _ _ (w + 1) (by omega) h2 hT q⟩)
        · have d' : ¬ sf_go n X = true := by rw [d]; decide
          rw [if_neg d', if_neg d'] at q
          rw [if_neg d'] at hT
          exact ih _ _ _ _ (w + 1) (by omega) h' hT q
theorem sp333_40 {N : Nat} {xs : Nat → Int32} {Q : iq_T} {g : iq_I} {l : iq_J} {X : iq_I} {S : Int64} {n a : Int} {K T M B : Int → Int} (h : sf_H 40 23 g l g l X S) (p0 : sf_PG g n K T M B) (hP : sf_GP n K T M B) (ha : 0 ≤ a ∧ a ≤ 20000) (q : ∀ (g' : iq_I) (l' : iq_J), sf_H 40 23 g l g' l' (sf_run n K T M B X S a).1 (sf_run n K T M B X S a).2 → sf_GX n 10100 (sf_run n K T M B X S a).1 → Q none g' l') : iq_P N xs 333 0 [some (iq_r 40), some (iq_i a), none] [] g l Q := by
  have hn := hP.1
  have h1 := ((((((((((h.u0_40 2 a).u0_40 3 0).u0_40 4 0).u0_40 7 0).u0_40 8 1).u0_40 9 0).u0_40 10 0).u0_40 11 0).u0_40 12 0).u0_40 13 0).u0_40 14 0
  have hX : sf_GX n (0 : Nat) (sf_iX X a) := by
    unfold sf_GX sf_iX
    refine ⟨?_, ?_, ?_, fun i x y => ?_, ?_, ?_, ?_, fun i x y => ?_⟩
    · simp [iq_uz]; omega
    · simp [iq_uz]
    · simp [iq_uz]
    · simp [iq_uz] at y; omega
    · simp [iq_uz]; omega
    · simp [iq_uz]
    · simp [iq_uz]
    · simp [iq_uz] at y; omega
  have hL := sf_GX.lp hP 10000 _ _ S hX
  have hD := hL.2.2.1
  have hG := sf_GX.gX hP ((sf_lp n K T M B 10000 (sf_iX X a) S).1 0 7).toNat _ _ (sf_lp n K T M B 10000 (sf_iX X a) S).2 hL (by omega)
  unfold sf_run at q
  refine B333_40 _ _ _ (sp333_p_40 p0 hP 10000 (sf_iX X a) _ _ S 0 (by omega) h1 hX (fun g' l' h' => B332_40 _ _ ?_))
  rw [h'.f_40.1, show (sf_lp n K T M B 10000 (sf_iX X a) S).1 0 7 = (((sf_lp n K T M B 10000 (sf_iX X a) S).1 0 7).toNat : Int) by omega]
  exact sp332_p_40 p0 hP _ _ _ _ _ _ _ (by omega) h' hL (by omega) (fun g2 l2 h2 => ⟨rfl, q g2 l2 h2 (hG.up (by omega))⟩)
theorem sp330_p_47 {N : Nat} {xs : Nat → Int32} {Q : iq_T} {g0 : iq_I} {l0 l : iq_J} {S : Int64} {n b : Int} {K T M B : Int → Int} (p0 : sf_PG g0 n K T M B) (hP : sf_GP n K T M B) (k : Nat) : ∀ (X g : iq_I) (d2 : Option iq_V), sf_H 47 44 g0 l0 g l X S → sf_GX n b X → X 0 7 = k → (∀ g' : iq_I, sf_H 47 44 g0 l0 g' l (sf_vX K B k X) S → Q none g' l) → iq_P N xs 330 5 [some (iq_r 47), some (iq_i k), d2] [] g l Q := by
  have hn := hP.1
  induction k with
  | zero =>
    intro X g d2 h hX e q
    exact B330_p5_47 _ _ _ _ ⟨by omega, fun _ => q _ (h.u0_47 4 1), fun h => by omega⟩
  | succ k ih =>
    intro X g d2 h hX e q
    have h3 := hX.2.2.1
    have ht := hX.top (by omega)
    have hB := hP.2 _ ht.1.1 ht.1.2
    obtain ⟨p1, p2, p3, p4, p5⟩ := h.pg (by decide) (by decide) p0
    rw [sf_vX] at q
    refine B330_p5_47 _ _ _ _ ⟨by omega, fun h => by omega, fun _ => sp318_47 h hX.2.2.1 ⟨_, rfl, ?_⟩⟩
    rw [if_pos (by omega)]
    refine sp118 (by omega) (by omega) (fun a c => ⟨_, rfl, by omega, fun h => by omega, fun _ => ⟨by omega, ?_⟩⟩) (fun a => by omega)
    rw [h.f_47.1, p2, p5]
    refine ⟨by omega, fun c4 => ?_, fun c4 => ⟨by omega, ?_⟩⟩
    · rw [if_neg c4] at q
      rw [show ((k + 1 : Nat) : Int) + -1 = (k : Int) by omega]
      exact ih _ _ _ (h.u0_47 7 (X 0 7 - 1)) (hX.u7 (by omega)) (by rw [show (iq_uz X 0 7 (X 0 7 - 1)) 0 7 = X 0 7 - 1 by simp [iq_uz]]; omega) q
    · rw [if_pos c4] at q
      exact q _ (h.u0_47 3 _)
theorem sp331_47 {N : Nat} {xs : Nat → Int32} {Q : iq_T} {g : iq_I} {l : iq_J} {g0 X : iq_I} {l0 : iq_J} {S : Int64} {n b s : Int} {K T M B : Int → Int} (h : sf_H 47 44 g0 l0 g l X S) (p0 : sf_PG g0 n K T M B) (hP : sf_GP n K T M B) (hX : sf_GX n b X) (hs : 0 ≤ s ∧ s < n) (q : ∀ (g' : iq_I) (l' : iq_J), sf_H 47 44 g0 l0 g' l' (sf_oX K T M B (iq_uz X 0 3 (s + 1)) S s) (sf_oS K M (iq_uz X 0 3 (s + 1)) S s) → Q none g' l') : iq_P N xs 331 0 [some (iq_r 47), some (iq_i s), none] [] g l Q := by
  have hB := hP.2 s hs.1 hs.2
  have hn := hP.1
  have pg := h.pg (by decide) (by decide) p0
  obtain ⟨p1, p2, p3, p4, p5⟩ := pg
  have h1 := h.u0_47 3 (s + 1)
  have hX1 := hX.u3 (v := s + 1) (by omega)
  have pg1 := h1.pg (by decide) (by decide) p0
  unfold sf_oX sf_oS at q
  refine B331_47 _ _ _ ⟨by omega, by omega, ?_⟩
  rw [p2, p3, p4, p5]
  refine ⟨by omega, ⟨fun k => ?_, fun k => ?_, fun k => ?_, fun k => ?_, fun k => ?_, fun k => ⟨by omega, ?_⟩, fun k => ⟨by omega, by omega, fun c => ?_, fun c => ?_⟩, fun k => ?_, trivial⟩, fun k => ?_⟩
  · rw [if_pos k, if_pos k] at q
    exact sp323_47 h1 (by omega) (fun g' l' h' => ⟨_, rfl, q g' l' h'⟩)
  · rw [if_neg (by omega), if_pos k, if_neg (by omega), if_pos k] at q
    exact sp324_47 h1 (by omega) (fun g' l' h' => ⟨rfl, q g' l' h'⟩)
  · rw [if_neg (by omega), if_neg (by omega), if_pos k, if_neg (by omega), if_neg (by omega), if_neg (by omega), if_neg (by omega)] at q
    unfold sf_mX at q
    have e : g 47 10 = (iq_uz X 0 3 (s + 1)) 0 10 := by rw [h.f_47.1]; simp [iq_uz]
    rw [e]
    refine sp325_47 h1 (by omega) (fun a g' l' h' => ⟨_, rfl, by omega, fun h => by omega, fun _ => q _ _ ?_⟩) (fun a => ⟨_, rfl, by omega, fun _ => q _ _ ?_, fun h => by omega⟩)
    · rw [if_pos a]
      have z := h'.u0_47 10 ((iq_uz X 0 3 (s + 1)) 0 10)
      rw [sf_uz0 (X := iq_uz (iq_uz X 0 3 (s + 1)) 4 5 (M s)) (by simp [iq_uz])] at z
      rw [Int.add_zero]
      exact z
    · rw [if_neg (by rw [a]; decide)]
      exact h1.u0_47 10 _
  · rw [if_neg (by omega), if_neg (by omega), if_neg (by omega), if_pos k, if_neg (by omega), if_neg (by omega), if_pos k] at q
    exact sp327_47 h1 hX1.2.2.2.2.1 (fun g' l' h' => ⟨rfl, q g' l' h'⟩)
  · rw [if_neg (by omega), if_neg (by omega), if_neg (by omega), if_neg (by omega), if_pos k, if_neg (by omega), if_neg (by omega), if_neg (by omega), if_pos k] at q
    refine sp323_47 h1 (by omega) (fun g' l' h' => ⟨_, rfl, ?_⟩)
    exact sp328_47 h' (h'.pg (by decide) (by decide) p0) (hX1.sX _ _).2.2.1 (by omega) rfl (fun g2 h2 => ⟨rfl, q g2 l' h2⟩)
  · have eX := sf_oX5 (T := T) (M := M) (B := B) (X := iq_uz X 0 3 (s + 1)) (S := S) k
    have eS := sf_oS5 (M := M) (X := iq_uz X 0 3 (s + 1)) (S := S) k
    unfold sf_oX at eX
    unfold sf_oS at eS
    rw [eX, eS] at q
    refine sp329_47 h1 (by omega) (by omega) (fun a => ⟨_, rfl, by omega, fun h => by omega, fun _ => ?_⟩) (fun a => ⟨_, rfl, by omega, fun _ => ⟨by omega, ?_⟩, fun h => by omega⟩)
    · rw [if_pos a] at q
      have z := h1.u0_47 3 (s + 1)
      rw [sf_uzz X] at z
      exact q _ _ z
    · rw [if_neg (by rw [a]; decide)] at q
      rw [pg1.2.2.2.2]
      exact q _ _ (h1.u0_47 3 _)
  · rw [if_neg (by omega), if_neg (by omega), if_neg (by omega), if_neg (by omega), if_neg (by omega), if_neg (by omega), if_pos k, if_neg (by omega), if_neg (by omega), if_neg (by omega), if_neg (by omega)] at q
    exact sp328_47 (b := decide (s + 1 < B s)) h1 pg1 hX1.2.2.1 (by omega) (by rw [if_neg (by simp; omega)]) (fun g2 h2 => ⟨rfl, q g2 l h2⟩)
  · rw [if_neg (by omega), if_neg (by omega), if_neg (by omega), if_neg (by omega), if_neg (by omega), if_neg (by omega), if_pos k, if_neg (by omega), if_neg (by omega), if_neg (by omega), if_neg (by omega)] at q
    exact sp328_47 (b := decide (s + 1 < B s)) h1 pg1 hX1.2.2.1 (by omega) (by rw [if_pos (by simp; omega)]) (fun g2 h2 => ⟨rfl, q g2 l h2⟩)
  · rw [if_neg (by omega), if_neg (by omega), if_neg (by omega), if_neg (by omega), if_neg (by omega), if_neg (by omega), if_neg (by omega), if_pos k, if_neg (by omega), if_neg (by omega), if_neg (by omega), if_neg (by omega)] at q
    have h7 := hX1.2.2.1
    refine B330_47 _ _ ?_
    rw [h1.f_47.1, show (iq_uz X 0 3 (s + 1)) 0 7 = (((iq_uz X 0 3 (s + 1)) 0 7).toNat : Int) by omega]
    exact sp330_p_47 p0 hP _ _ _ _ h1 hX1 (by omega) (fun g2 h2 => ⟨rfl, q g2 l h2⟩)
  · rw [if_neg (by omega), if_neg (by omega), if_neg (by omega), if_neg (by omega), if_neg (by omega), if_neg (by omega), if_neg (by omega), if_neg (by omega), if_neg (by omega), if_neg (by omega), if_neg (by omega), if_neg (by omega)] at q
    exact q _ _ (h1.u0_47 4 1)
theorem sp332_p_47 {N : Nat} {xs : Nat → Int32} {Q : iq_T} {g0 : iq_I} {l0 : iq_J} {n : Int} {K T M B : Int → Int} (p0 : sf_PG g0 n K T M B) (hP : sf_GP n K T M B) (k : Nat) : ∀ (X g : iq_I) (l : iq_J) (S : Int64) (b : Int) (d2 : Option iq_V), b + k ≤ 1000000 → sf_H 47 44 g0 l0 g l X S → sf_GX n b X → X 0 7 = k → (∀ (g' : iq_I) (l' : iq_J), sf_H 47 44 g0 l0 g' l' (sf_gX K M k X S).1 (sf_gX K M k X S).2 → Q none g' l') → iq_P N xs 332 5 [some (iq_r 47), some (iq_i k), d2] [] g l Q := by
  have hn := hP.1
  induction k with
  | zero =>
    intro X g l S b d2 hb h hX e q
    exact B332_p5_47 _ _ _ _ ⟨by omega, fun _ => q _ _ h, fun h => by omega⟩
  | succ k ih =>
    intro X g l S b d2 hb h hX e q
    have h3 := hX.2.2.1
    have hl := hX.2.2.2.2.2.2.1
    have ht := hX.top (by omega)
    have hB := hP.2 _ ht.1.1 ht.1.2
    have d7 : (sf_dX X (M (sf_top X))) 0 7 = X 0 7 := by
      unfold sf_dX
      split <;> simp [iq_uz]
    obtain ⟨p1, p2, p3, p4, p5⟩ := h.pg (by decide) (by decide) p0
    rw [sf_gX] at q
    refine B332_p5_47 _ _ _ _ ⟨by omega, fun h => by omega, fun _ => sp318_47 h hX.2.2.1 ⟨_, rfl, ?_⟩⟩
    rw [if_pos (by omega)]
    refine sp118 (by omega) (by omega) (fun a c => ⟨_, rfl, by omega, fun h => by omega, fun _ => ⟨by omega, ?_⟩⟩) (fun a => by omega)
    rw [h.f_47.1, p2, p4]
    rw [show ((k + 1 : Nat) : Int) + -1 = (k : Int) by omega]
    refine ⟨by omega, fun c4 => ?_, fun c4 => ⟨by omega, ?_⟩⟩
    · rw [if_neg c4] at q
      exact ih _ _ _ _ b _ (by omega) (h.u0_47 7 (X 0 7 - 1)) (hX.u7 (by omega)) (by rw [show (iq_uz X 0 7 (X 0 7 - 1)) 0 7 = X 0 7 - 1 by simp [iq_uz]]; omega) q
    · rw [if_pos c4] at q
      refine sp320_47 h (by omega) (by omega) (fun g' l' h' => ⟨rfl, ?_⟩)
      rw [h'.f_47.1, d7]
      have z := hX.drop (t := M (sf_top X)) (by omega)
      have z2 := z.u7 (by omega)
      rw [d7] at z2
      exact ih _ _ _ _ (b + 1) _ (by omega) (h'.u0_47 7 (X 0 7 - 1)) z2 (by rw [show (iq_uz (sf_dX X (M (sf_top X))) 0 7 (X 0 7 - 1)) 0 7 = X 0 7 - 1 by simp [iq_uz]]; omega) q
theorem sp333_p_47 {N : Nat} {xs : Nat → Int32} {Q : iq_T} {g0 : iq_I} {l0 : iq_J} {n a : Int} {K T M B : Int → Int} (p0 : sf_PG g0 n K T M B) (hP : sf_GP n K T M B) (f : Nat) : ∀ (X g : iq_I) (l : iq_J) (S : Int64) (w : Nat), w + f = 10000 → sf_H 47 44 g0 l0 g l X S → sf_GX n w X → (∀ (g' : iq_I) (l' : iq_J), sf_H 47 44 g0 l0 g' l' (sf_lp n K T M B f X S).1 (sf_lp n K T M B f X S).2 → iq_P N xs 332 0 [some (iq_r 47), none, none] [] g' l' (fun r g' l' => r = none ∧ Q none g' l')) → iq_P N xs 333 57 [some (iq_r 47), some (iq_i a), some (iq_i w)] [] g l Q := by
  induction f with
  | zero =>
    intro X g l S w hw h hX q
    exact B333_p57_47 _ _ _ _ ⟨by omega, fun _ => q g l h, fun h => by omega⟩
  | succ f ih =>
    intro X g l S w hw h hX q
    rw [sf_lp] at q
    have h3 := hX.1
    have h4 := hX.2.1
    have p := h.pg (by decide) (by decide) p0
    refine B333_p57_47 _ _ _ _ ⟨by omega, fun h => by omega, fun _ => ?_⟩
    rw [h.f_47.1]
    refine ⟨by omega, fun c => ?_, fun c => ?_⟩
    · rw [if_neg c] at q
      exact q g l h
    · rw [if_pos c] at q
      have hT := hX.tX hP S
      rw [show ((w : Nat) : Int) + 1 = ((w + 1 : Nat) : Int) by omega] at hT ⊢
      unfold sf_tX sf_tS at q
      unfold sf_tX at hT
      refine sp319_47 h p hP hX (fun e => ⟨_, rfl, by omega, fun h => by omega, fun _ => ?_⟩) (fun e => ⟨_, rfl, by omega, fun _ => ?_, fun h => by omega⟩)
      · rw [if_pos e, if_pos e] at q
        rw [if_pos e] at hT
        exact sp321_47 h p hP hX (by omega) e (fun g' l' h' => ⟨rfl, ih _ _ _ _ (w + 1) (by omega) h' hT q⟩)
      · have e' : ¬ sf_ae B X = true := by rw [e]; decide
        rw [if_neg e', if_neg e'] at q
        rw [if_neg e'] at hT
        refine sp322_47 h p hP hX (fun d g' h' => ⟨_, rfl, by omega, fun h => by omega, fun _ => ?_⟩) (fun d g' h' => ⟨_, rfl, by omega, fun _ => ?_, fun h => by omega⟩)
        · rw [if_pos d, if_pos d] at q
          rw [if_pos d] at hT
          rw [h'.f_47.1, (sf_cX3 n X).1]
          unfold sf_go at d
          simp only [Bool.and_eq_true, decide_eq_true_eq] at d
          exact sp331_47 h' p0 hP hX.cX ⟨h3.1, d.1⟩ (fun g2 l2 h2 => ⟨rfl, ih _ _ _ _ (w + 1) (by omega) h2 hT q⟩)
        · have d' : ¬ sf_go n X = true := by rw [d]; decide
          rw [if_neg d', if_neg d'] at q
          rw [if_neg d'] at hT
          exact ih _ _ _ _ (w + 1) (by omega) h' hT q
theorem sp333_47 {N : Nat} {xs : Nat → Int32} {Q : iq_T} {g : iq_I} {l : iq_J} {X : iq_I} {S : Int64} {n a : Int} {K T M B : Int → Int} (h : sf_H 47 44 g l g l X S) (p0 : sf_PG g n K T M B) (hP : sf_GP n K T M B) (ha : 0 ≤ a ∧ a ≤ 20000) (q : ∀ (g' : iq_I) (l' : iq_J), sf_H 47 44 g l g' l' (sf_run n K T M B X S a).1 (sf_run n K T M B X S a).2 → sf_GX n 10100 (sf_run n K T M B X S a).1 → Q none g' l') : iq_P N xs 333 0 [some (iq_r 47), some (iq_i a), none] [] g l Q := by
  have hn := hP.1
  have h1 := ((((((((((h.u0_47 2 a).u0_47 3 0).u0_47 4 0).u0_47 7 0).u0_47 8 1).u0_47 9 0).u0_47 10 0).u0_47 11 0).u0_47 12 0).u0_47 13 0).u0_47 14 0
  have hX : sf_GX n (0 : Nat) (sf_iX X a) := by
    unfold sf_GX sf_iX
    refine ⟨?_, ?_, ?_, fun i x y => ?_, ?_, ?_, ?_, fun i x y => ?_⟩
    · simp [iq_uz]; omega
    · simp [iq_uz]
    · simp [iq_uz]
    · simp [iq_uz] at y; omega
    · simp [iq_uz]; omega
    · simp [iq_uz]
    · simp [iq_uz]
    · simp [iq_uz] at y; omega
  have hL := sf_GX.lp hP 10000 _ _ S hX
  have hD := hL.2.2.1
  have hG := sf_GX.gX hP ((sf_lp n K T M B 10000 (sf_iX X a) S).1 0 7).toNat _ _ (sf_lp n K T M B 10000 (sf_iX X a) S).2 hL (by omega)
  unfold sf_run at q
  refine B333_47 _ _ _ (sp333_p_47 p0 hP 10000 (sf_iX X a) _ _ S 0 (by omega) h1 hX (fun g' l' h' => B332_47 _ _ ?_))
  rw [h'.f_47.1, show (sf_lp n K T M B 10000 (sf_iX X a) S).1 0 7 = (((sf_lp n K T M B 10000 (sf_iX X a) S).1 0 7).toNat : Int) by omega]
  exact sp332_p_47 p0 hP _ _ _ _ _ _ _ (by omega) h' hL (by omega) (fun g2 l2 h2 => ⟨rfl, q g2 l2 h2 (hG.up (by omega))⟩)
