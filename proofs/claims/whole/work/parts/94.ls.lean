/-! live, on both sides. -/
theorem sf_dX7 (X : iq_I) (t v : Int) : iq_uz (sf_dX X t) 0 7 v = sf_dX (iq_uz X 0 7 v) t := by
  unfold sf_dX
  rw [show (iq_uz X 0 7 v) 0 13 = X 0 13 by simp [iq_uz]]
  funext j i
  by_cases c : X 0 13 < 60
  · rw [if_pos c, if_pos c]
    unfold iq_uz
    by_cases a : j = 0 ∧ i = 7
    · obtain ⟨rfl, rfl⟩ := a
      simp
    · simp only [a, if_false]
  · rw [if_neg c, if_neg c]
    unfold iq_uz
    by_cases a : j = 0 ∧ i = 7
    · obtain ⟨rfl, rfl⟩ := a
      simp
    · simp only [a, if_false]
section LS
variable {N : Nat} {xs : Nat → Int32} {Q : iq_T} {l : iq_J} {D : Int → Int} {g0 : iq_I} {m : Nat} {n : Int} {K T M B : Int → Int}
theorem sf_lg (hV : sf_PV D m n K T M B) (v1 : Int) : ∀ (st : List Nat) (g X : iq_I) (S : Int64) (v2 : Int) (d3 d4 : Option iq_V), sf_J D g0 g st X S → sf_ok D m st → (∀ g' : iq_I, sf_J D g0 g' [] (sf_gX K M st.length X S).1 (sf_gX K M st.length X S).2 → Q none g' l) → iq_P N xs 345 174 [some (iq_r 77), some (iq_i v1), some (iq_i v2), d3, d4] [] g l Q := by
  intro st
  induction st with
  | nil =>
    intro g X S v2 d3 d4 h ok q
    have s := h.2.2.2.2.2.2.2
    rw [sf_ST] at s
    refine B345_p174_77 _ _ _ _ _ _ ⟨by omega, fun _ => q g h, fun h => by omega⟩
  | cons o r ih =>
    intro g X S v2 d3 d4 h ok q
    obtain ⟨o1, o2, o3⟩ := ok.2 o List.mem_cons_self
    have rwo := hV.2.2.2.2.2.2.2 o o1 o2
    have et := h.topc
    have ol := ok.1
    simp only [List.length_cons] at ol
    have ok' : sf_ok D m r := ⟨by omega, fun x hx => ok.2 x (List.mem_cons_of_mem _ hx)⟩
    rw [List.length_cons, sf_gX, et] at q
    rcases o3 with o3 | o3
    · have k4 := sf_rw12 rwo o3
      rw [if_pos k4.1, k4.2.1, sf_dX7] at q
      have s := h.2.2.2.2.2.2.2
      have sr := s.rng
      simp only [List.length_cons] at sr
      rw [sf_ST] at s
      have s1 : 1 ≤ g 77 45 := by
        rcases s.2 with s | s
        · exact absurd s.1 (by omega)
        · have := s.2.2.rng; omega
      refine B345_p174_77 _ _ _ _ _ _ ⟨by omega, fun h => by omega, fun _ => sp341 h o3 (by omega) (by omega) (fun g' j => ⟨rfl, ih g' _ _ _ _ _ j ok' q⟩)⟩
    · have k6 := sf_rw16 rwo o3
      rw [if_neg (by omega)] at q
      exact ih g _ S v2 d3 d4 (h.pop o3) ok' q
theorem sp345 {g X : iq_I} {S : Int64} {a : Int} (hV : sf_PV D m n K T M B) (hP : sf_GP n K T M B) (hR : ∀ i, 0 ≤ i → i < 360 → g 78 (92 + i) = D i) (hm : g 78 10 = m) (hz : iq_ZV (X 4) S (X 6 0) (X 5)) (hM : iq_MS g 0 (X 4) S (X 6 0) (X 5)) (ha : 0 ≤ a ∧ a ≤ 20000) (q : ∀ g' : iq_I, sf_J D g g' [] (sf_run n K T M B X S a).1 (sf_run n K T M B X S a).2 → Q none g' l) : iq_P N xs 345 0 [some (iq_r 77), some (iq_i a), none, none, none] [] g l Q := by
  have hn := hP.1
  have nr := hV.2.1
  have hX : sf_GX n 0 (sf_iX X a) := by
    unfold sf_GX sf_iX
    refine ⟨?_, ?_, ?_, fun i x y => ?_, ?_, ?_, ?_, fun i x y => ?_⟩
    · simp [iq_uz]; omega
    · simp [iq_uz]
    · simp [iq_uz]
    · simp [iq_uz] at y; omega
    · simp [iq_uz]; omega
    · simp [iq_uz]
    · simp [iq_uz]
    · simp [iq_uz] at y; omega
  have xj : ∀ j, ¬ j = 0 → (sf_iX X a) j = X j := fun j y => by
    unfold sf_iX
    rw [sf_uzn _ y, sf_uzn _ y, sf_uzn _ y, sf_uzn _ y, sf_uzn _ y, sf_uzn _ y, sf_uzn _ y, sf_uzn _ y, sf_uzn _ y, sf_uzn _ y, sf_uzn _ y]
  have x2 : (sf_iX X a) 0 2 = a := by unfold sf_iX; simp [iq_uz]
  have x3 : (sf_iX X a) 0 3 = 0 := by unfold sf_iX; simp [iq_uz]
  have x4 : (sf_iX X a) 0 4 = 0 := by unfold sf_iX; simp [iq_uz]
  have x7 : (sf_iX X a) 0 7 = 0 := by unfold sf_iX; simp [iq_uz]
  have x9 : (sf_iX X a) 0 9 = 0 := by unfold sf_iX; simp [iq_uz]
  have xA : (sf_iX X a) 0 10 = 0 := by unfold sf_iX; simp [iq_uz]
  have xB : (sf_iX X a) 0 11 = 0 := by unfold sf_iX; simp [iq_uz]
  have xC : (sf_iX X a) 0 12 = 0 := by unfold sf_iX; simp [iq_uz]
  have xD : (sf_iX X a) 0 13 = 0 := by unfold sf_iX; simp [iq_uz]
  have xE : (sf_iX X a) 0 14 = 0 := by unfold sf_iX; simp [iq_uz]
  refine B345_77 _ _ _ (B345_p22_77 _ _ _ _ ⟨by omega, fun h => by omega, fun _ => ⟨by omega, B345_p22_77 _ _ _ _ ⟨by omega, fun h => by omega, fun _ => ⟨by omega, B345_p22_77 _ _ _ _ ⟨by omega, fun h => by omega, fun _ => ⟨by omega, B345_p22_77 _ _ _ _ ⟨by omega, fun h => by omega, fun _ => ⟨by omega, B345_p22_77 _ _ _ _ ⟨by omega, fun h => by omega, fun _ => ⟨by omega, B345_p22_77 _ _ _ _ ⟨by omega, fun _ => ?_, fun h => by omega⟩⟩⟩⟩⟩⟩⟩⟩⟩⟩⟩)
  have fin : ∀ G : iq_I, sf_J D g G [] (sf_iX X a) S → iq_P N xs 345 42 [some (iq_r 77), some (iq_i a), some (iq_i (0 : Nat)), none, none] [] G l Q := by
    intro G j
    refine sf_ml hV hP hR hm a 300 0 G (sf_iX X a) S 0 _ _ 10000 (Nat.zero_le _) ?_ j (by rw [x3]; rfl) x4 xE hX (by rw [x9]; omega) (by omega) (fun g' X' S' st v2 d3 d4 j' ok e => ?_)
    · by_cases c : 0 = m
      · exact .inl c
      · refine .inr (fun h17 => ?_)
        obtain ⟨o, r, e, _⟩ := hV.2.2.2.2.1 0 (by omega) h17
        rw [sf_E] at e
        cases e
    · unfold sf_run at q
      rw [e] at q
      have d7 := j'.2.2.2.2.2.2.1
      refine sf_lg hV a st g' X' S' v2 d3 d4 j' ok ?_
      rw [show (X' 0 7).toNat = st.length by omega] at q
      exact q
  refine fin _ ?_
  unfold sf_J
  rw [xj 1 (by decide), xj 2 (by decide), xj 3 (by decide), xj 4 (by decide), xj 5 (by decide), xj 6 (by decide), x2, x7, x9, xA, xB, xC, xD, xE]
  refine ⟨((((((((sf_MK.refl g).uz (by omega)).uz (by omega)).uz (by omega)).uz (by omega)).uz (by omega)).uz (by omega)).uz (by omega)).uz (by omega) |>.uz (by omega), ⟨hz, sf_MSc hM (by funext i; simp [iq_uz])⟩, ?_, ?_, ?_, fun i y1 y2 => by omega, ?_, ?_⟩
  · simp [iq_uz]
  · simp [iq_uz]
  · simp [iq_uz]; rfl
  · rfl
  · rw [sf_ST]; simp [iq_uz]
end LS
/-- a life's cells as X -/
def sf_x0 (g : iq_I) (c : Nat) (P : Int → Int) (m : Int) (R : Int → Int) : iq_I := fun j => if j = 0 then g c else if j = 1 then g (c + 1) else if j = 2 then g (c + 2) else if j = 3 then g (c + 3) else if j = 4 then P else if j = 5 then R else fun _ => m
theorem sf_x0H {g : iq_I} {l : iq_J} {c s : Nat} {P : Int → Int} {S : Int64} {m : Int} {R : Int → Int} (h : iq_CZ g l s (s + 1) (s + 2) P S m R) : sf_H c s g l g l (sf_x0 g c P m R) S := ⟨fun _ _ _ => ⟨rfl, rfl⟩, rfl, rfl, rfl, rfl, h⟩
def iq_Ml : Nat → Int → Bool := fun j _ => (decide (23 ≤ j) && decide (j ≤ 25)) || decide (j = 40) || decide (j = 43)
/-- what live leaves in the class -/
def sf_LC (g' : iq_I) (l' : iq_J) (n : Int) (X : iq_I) (S : Int64) : Prop := iq_CZ g' l' 23 24 25 (X 4) S (X 6 0) (X 5) ∧ g' 40 = X 0 ∧ g' 43 = X 3 ∧ sf_GX n 10100 X
theorem cLive {N : Nat} {xs : Nat → Int32} {Q : iq_T} {g : iq_I} {l : iq_J} {P : Int → Int} {S : Int64} {m : Int} {R : Int → Int} {n a : Int} {K T M B : Int → Int} (hc : iq_CZ g l 23 24 25 P S m R) (p : sf_PG g n K T M B) (h5 : g 26 5 = 0 ∨ g 26 5 = 1) (hP : g 26 5 = 1 → sf_GP n K T M B) (ha : -2147483648 ≤ a ∧ a ≤ 2147483647) (q1 : 0 ≤ a ∧ a ≤ 9999 → g 26 5 = 1 → ∀ (g' : iq_I) (l' : iq_J), iq_KM iq_Ml g l g' l' → sf_LC g' l' n (sf_run n K T M B (sf_x0 g 40 P m R) S a).1 (sf_run n K T M B (sf_x0 g 40 P m R) S a).2 → g' 0 0 = 0 → Q (some (iq_i ((sf_run n K T M B (sf_x0 g 40 P m R) S a).1 0 9))) g' l') (q0 : ¬ ((0 ≤ a ∧ a ≤ 9999) ∧ g 26 5 = 1) → Q (some (iq_i (-1))) (iq_uz g 0 0 (if 0 ≤ a ∧ a ≤ 9999 then 6 else 1)) l) : iq_P N xs 334 0 [some (iq_r 0), some (iq_i a)] [] g l Q := by
  refine B334_0 _ _ _ ⟨by omega, fun c => sp44 ⟨_, rfl, ?_⟩, fun c1 => ⟨by omega, fun c2 => ⟨by omega, fun c3 => ?_, fun c3 => sp44 ⟨_, rfl, ?_⟩⟩, fun c => sp44 ⟨_, rfl, ?_⟩⟩⟩
  · have z := q0 (by omega)
    rw [if_neg (by omega)] at z
    exact z
  · have h1 : g 26 5 = 1 := by omega
    refine sp333_40 (sf_x0H hc) p (hP h1) (by omega) (fun g' l' h hX => ⟨rfl, ?_⟩)
    rw [h.f_40.1]
    refine sp90 ⟨_, rfl, q1 ⟨c1, c2⟩ h1 _ _ ((iq_KM.uz (M := iq_Ml) ⟨fun j k x y => ?_, ?_, ?_, ?_, ?_⟩ (.inl iq_sx00))) ⟨sf_CZn h.2.2.2.2.2 (sf_uzn _ (by decide) _ _) (sf_uzn _ (by decide) _ _) (sf_uzn _ (by decide) _ _), ?_, ?_, hX⟩ (by simp [iq_uz])⟩
    · have e := h.1 j (by
        intro z
        have : j = 40 ∨ j = 41 ∨ j = 42 ∨ j = 43 := by omega
        rcases this with e | e | e | e <;> subst e <;> simp [iq_sx, iq_Ml] at x y) (by
        intro z
        have : j = 23 ∨ j = 24 ∨ j = 25 := by omega
        rcases this with e | e | e <;> subst e <;> simp [iq_Ml] at y)
      exact ⟨congrFun e.1 k, congrFun e.2 k⟩
    · exact congrFun (h.1 0 (by omega) (by omega)).2 1
    · exact congrFun (h.1 0 (by omega) (by omega)).2 2
    · exact congrFun (h.1 77 (by omega) (by omega)).2 2
    · exact congrFun (h.1 77 (by omega) (by omega)).2 3
    · rw [sf_uzn _ (by decide)]; exact h.f_40.1
    · rw [sf_uzn _ (by decide)]; exact h.f_40.2.2.2
  · have z := q0 (by omega)
    rw [if_pos (by omega)] at z
    exact z
  · have z := q0 (by omega)
    rw [if_neg (by omega)] at z
    exact z
/-- what live leaves in the model -/
def sf_LM (g' : iq_I) (X : iq_I) (S : Int64) : Prop := (iq_ZV (X 4) S (X 6 0) (X 5) ∧ iq_MS g' 0 (X 4) S (X 6 0) (X 5)) ∧ (∀ i, 0 ≤ i → i < 5 → g' 102 i = X 0 (10 + i)) ∧ g' 77 47 = min 60 (X 0 13) ∧ (∀ i, 0 ≤ i → i < X 0 13 → i < 60 → g' 105 i = X 3 i) ∧ g' 77 54 = 1
def iq_Mk : Nat → Int → Bool := fun j k => (decide (j = 78) && decide (0 ≤ k) && decide (k < 92) && !decide (k = 10)) || decide (j = 102) || decide (j = 105) || (decide (j = 77) && (decide (k = 47) || decide (k = 54)))
theorem mLive {N : Nat} {xs : Nat → Int32} {Q : iq_T} {g : iq_I} {l : iq_J} {D : Int → Int} {m : Nat} {X : iq_I} {S : Int64} {n a : Int} {K T M B : Int → Int} (hz : iq_ZV (X 4) S (X 6 0) (X 5)) (hM : iq_MS g 0 (X 4) S (X 6 0) (X 5)) (hs : ¬ g 78 10 = -1 → g 78 10 = m ∧ sf_PV D m n K T M B ∧ sf_GP n K T M B ∧ (∀ i, 0 ≤ i → i < 360 → g 78 (92 + i) = D i)) (ha : -2147483648 ≤ a ∧ a ≤ 2147483647) (q1 : 0 ≤ a ∧ a ≤ 9999 → ¬ g 78 10 = -1 → ∀ g' : iq_I, iq_KM iq_Mk g l g' l → sf_LM g' (sf_run n K T M B X S a).1 (sf_run n K T M B X S a).2 → g' 0 0 = g 0 0 → g' 77 1 = 0 → Q (some (iq_i ((sf_run n K T M B X S a).1 0 9))) g' l) (q0 : ¬ ((0 ≤ a ∧ a ≤ 9999) ∧ ¬ g 78 10 = -1) → Q (some (iq_i (-1))) (iq_uz g 77 1 (if 0 ≤ a ∧ a ≤ 9999 then 6 else 1)) l) : iq_P N xs 346 0 [some (iq_r 77), some (iq_i a), none] [] g l Q := by
  have i0 : (0 : Int64).toInt = 0 := by decide
  have i9 : (Int64.ofNat 9999).toInt = 9999 := by decide
  refine B346_77 _ _ _ (sp149 (fun c1 c2 => ⟨_, rfl, by omega, fun _ => ?_, fun h => by omega⟩) (fun c => ⟨_, rfl, by omega, fun h => by omega, fun _ => sp98 ⟨_, rfl, ?_⟩⟩))
  · rw [iq_i2lv ha.1 ha.2, i0] at c1
    rw [iq_i2lv ha.1 ha.2, i9] at c2
    by_cases c3 : g 78 10 = -1
    · refine ⟨by omega, fun h => absurd c3 h, fun _ => sp98 ⟨_, rfl, ?_⟩⟩
      have z := q0 (by omega)
      rw [if_pos ⟨c1, c2⟩] at z
      exact z
    · obtain ⟨s1, s2, s3, s4⟩ := hs c3
      have q1 := q1 ⟨c1, c2⟩ c3
      have m60 := s2.1
      generalize hr : sf_run n K T M B X S a = XS at q1
      refine ⟨by omega, fun _ => sp345 s2 s3 s4 s1 hz hM (by omega) (fun g1 j => ⟨rfl, ?_⟩), fun h => absurd h c3⟩
      rw [hr] at j
      obtain ⟨j1, j2, j3, j4, j5, j6, j7, j8⟩ := j
      -- what is told, then the log
      have lg : ∀ (e v : Nat) (G : iq_I), ((v : Int) + e = g1 77 46) → (∀ j, ¬ j = 105 → ¬ j = 102 → G j = g1 j) → (∀ i, 0 ≤ i → i < 5 → G 102 i = g1 101 i) → (∀ i : Int, 0 ≤ i → i < v → G 105 i = g1 104 i) → iq_P N xs 346 68 [some (iq_r 77), some (iq_i a), some (iq_i v)] [] G l Q := by
        intro e
        induction e with
        | zero =>
          intro v G hv b1 b2 b3
          refine B346_p68_77 _ _ _ _ ?_
          rw [b1 77 (by decide) (by decide)]
          refine ⟨by omega, fun _ => ?_, fun h => by omega⟩
          rw [j3.2]
          have e77 : ∀ k, ¬ k = 47 → ¬ k = 54 → ¬ k = 1 → (iq_uz (iq_uz (iq_uz G 77 47 (g1 77 46)) 77 54 1) 77 1 0) 77 k = g1 77 k := fun k y1 y2 y3 => by rw [← b1 77 (by decide) (by decide)]; simp [iq_uz, y1, y2, y3]
          have ej : ∀ j, ¬ j = 77 → (iq_uz (iq_uz (iq_uz G 77 47 (g1 77 46)) 77 54 1) 77 1 0) j = G j := fun j y => by rw [sf_uzn _ y, sf_uzn _ y, sf_uzn _ y]
          refine sp115 ⟨_, rfl, q1 _ (.ofg (fun j k x y => ?_)) ⟨⟨j2.1, sf_MSc j2.2 (by rw [ej 78 (by decide), b1 78 (by decide) (by decide)])⟩, fun i y1 y2 => ?_, ?_, fun i y1 y2 y3 => ?_, by simp [iq_uz]⟩ ?_ (by simp [iq_uz])⟩
          · by_cases h77 : j = 77
            · subst h77
              have y1 : ¬ k = 47 := fun e => by subst e; simp [iq_Mk] at y
              have y2 : ¬ k = 54 := fun e => by subst e; simp [iq_Mk] at y
              have y3 : ¬ k = 1 := fun e => by subst e; simp [iq_sx] at x
              rw [e77 k y1 y2 y3]
              refine j1.2.1 k (fun e => ?_) (fun e => by subst e; simp [iq_sx] at x) (fun e => by subst e; simp [iq_sx] at x)
              have : k = 43 ∨ k = 44 ∨ k = 45 ∨ k = 46 := by omega
              rcases this with e | e | e | e <;> subst e <;> simp [iq_sx] at x
            · have n5 : ¬ j = 105 := fun e => by subst e; simp [iq_Mk] at y
              have n2 : ¬ j = 102 := fun e => by subst e; simp [iq_Mk] at y
              rw [ej j h77, b1 j n5 n2]
              by_cases h78 : j = 78
              · subst h78
                refine j1.2.2 k (fun e => ?_)
                simp [iq_Mk, e.1.1, e.1.2, e.2] at y
              · rw [j1.1 j h77 h78 (fun e => by
                  have : j = 85 ∨ j = 86 ∨ j = 87 ∨ j = 88 ∨ j = 89 := by omega
                  rcases this with e | e | e | e | e <;> subst e <;> simp [iq_sx] at x) (fun e => by
                  rcases e with e | e | e | e <;> subst e <;> simp [iq_sx] at x)]
          · rw [ej 102 (by decide), b2 i y1 y2]
            have : i = 0 ∨ i = 1 ∨ i = 2 ∨ i = 3 ∨ i = 4 := by omega
            obtain ⟨c0, c1, c2, c3, c4⟩ := j4
            rcases this with e | e | e | e | e <;> subst e
            · exact c0
            · exact c1
            · exact c2
            · exact c3
            · exact c4
          · rw [← j5.1]; simp [iq_uz]
          · rw [ej 105 (by decide), b3 i y1 (by omega)]
            exact j6 i y1 y2 y3
          · rw [ej 0 (by decide), b1 0 (by decide) (by decide), j1.1 0 (by decide) (by decide) (by decide) (by decide)]
        | succ e ih =>
          intro v G hv b1 b2 b3
          refine B346_p68_77 _ _ _ _ ?_
          rw [b1 77 (by decide) (by decide)]
          refine ⟨by omega, fun h => by omega, fun _ => ⟨by omega, by omega, ?_⟩⟩
          rw [show ((v : Nat) : Int) + 1 = ((v + 1 : Nat) : Int) by omega, b1 104 (by decide) (by decide)]
          refine ih (v + 1) _ (by omega) (fun j y1 y2 => by rw [sf_uzn _ y1]; exact b1 j y1 y2) (fun i y1 y2 => by rw [sf_uzn _ (by decide)]; exact b2 i y1 y2) (fun i y1 y2 => ?_)
          by_cases e : i = v
          · rw [e]; simp [iq_uz]
          · have := b3 i y1 (by omega)
            simp [iq_uz, e, this]
      have tl : ∀ (e v : Nat) (G : iq_I), v + e = 5 → (∀ j, ¬ j = 102 → G j = g1 j) → (∀ i : Int, 0 ≤ i → i < v → G 102 i = g1 101 i) → iq_P N xs 346 43 [some (iq_r 77), some (iq_i a), some (iq_i v)] [] G l Q := by
        intro e
        induction e with
        | zero =>
          intro v G hv b1 b2
          refine B346_p43_77 _ _ _ _ ⟨by omega, fun _ => ?_, fun h => by omega⟩
          exact lg (g1 77 46).toNat 0 G (by omega) (fun j y1 y2 => b1 j y2) (fun i y1 y2 => b2 i y1 (by omega)) (fun i y1 y2 => by omega)
        | succ e ih =>
          intro v G hv b1 b2
          refine B346_p43_77 _ _ _ _ ⟨by omega, fun h => by omega, fun _ => ⟨by omega, by omega, ?_⟩⟩
          rw [show ((v : Nat) : Int) + 1 = ((v + 1 : Nat) : Int) by omega, b1 101 (by decide)]
          refine ih (v + 1) _ (by omega) (fun j y1 => by rw [sf_uzn _ y1]; exact b1 j y1) (fun i y1 y2 => ?_)
          by_cases e : i = v
          · rw [e]; simp [iq_uz]
          · have := b2 i y1 (by omega)
            simp [iq_uz, e, this]
      exact tl 5 0 g1 (by omega) (fun _ _ => rfl) (fun i y1 y2 => by omega)
  · rw [iq_i2lv ha.1 ha.2, i0, i9] at c
    have z := q0 (fun z => c z.1)
    rw [if_neg c] at z
    exact z
