/-! Studies lived, in the model: one STEP after the other. -/
theorem sf_sX0 (X : iq_I) (S : Int64) (t : Int) {i : Int} (h1 : ¬ i = 10) (h2 : ¬ i = 11) : (sf_sX X S t) 0 i = X 0 i := by
  unfold sf_sX
  split <;> simp [iq_uz, iq_rz, h1, h2]
theorem sf_lX0 (X : iq_I) (S : Int64) (t : Int) {i : Int} (h1 : ¬ i = 10) (h2 : ¬ i = 12) : (sf_lX X S t) 0 i = X 0 i := by
  unfold sf_lX
  split <;> simp [iq_uz, h1, h2]
theorem sf_mX0 (X : iq_I) (t : Int) {i : Int} (h1 : ¬ i = 10) : (sf_mX X t) 0 i = X 0 i := by
  unfold sf_mX
  split <;> simp [iq_uz, h1]
theorem sf_aX0 (X : iq_I) (S : Int64) {i : Int} (h1 : ¬ i = 10) (h2 : ¬ i = 11) (h3 : ¬ i = 12) (h4 : ¬ i = 2) : (sf_aX X S) 0 i = X 0 i := by
  unfold sf_aX
  split
  · rw [sf_lX0 _ _ _ h1 h3]; simp [iq_uz, h4]
  · rw [sf_sX0 _ _ _ h1 h2]; simp [iq_uz, h4]
theorem sf_fh_hl (D : Int → Int) : ∀ l : List Nat, sf_fh D (sf_hl D l) = sf_fh D l := by
  intro l
  induction l with
  | nil => rfl
  | cons o r ih =>
    rw [sf_hl]
    by_cases c : D (6 * o) = 12
    · rw [if_pos (.inl c), sf_fh, sf_fh, if_pos c, if_pos c]
    · by_cases d : D (6 * o) = 16
      · rw [if_pos (.inr d), sf_fh, sf_fh, if_neg c, if_neg c, ih]
      · rw [if_neg (by omega), ih, sf_fh, if_neg c]
/-- popping a loop -/
theorem sf_J.pop {D : Int → Int} {g0 g X : iq_I} {o : Nat} {r : List Nat} {S : Int64} (h : sf_J D g0 g (o :: r) X S) (h16 : D (6 * o) = 16) : sf_J D g0 g r (iq_uz X 0 7 (X 0 7 - 1)) S := by
  obtain ⟨k, z, a, c, lg, lo, dp, s⟩ := h
  simp only [List.length_cons] at dp
  rw [sf_ST] at s
  have xe : ∀ j, ¬ j = 0 → (iq_uz X 0 7 (X 0 7 - 1)) j = X j := fun j hj => sf_uzn X hj _ _
  have x0 : ∀ k, ¬ k = 7 → (iq_uz X 0 7 (X 0 7 - 1)) 0 k = X 0 k := fun k hk => by simp [iq_uz, hk]
  unfold sf_J
  rw [xe 1 (by decide), xe 2 (by decide), xe 3 (by decide), xe 4 (by decide), xe 5 (by decide), xe 6 (by decide), x0 2 (by decide), x0 9 (by decide), x0 10 (by decide), x0 11 (by decide), x0 12 (by decide), x0 13 (by decide), x0 14 (by decide)]
  refine ⟨k, z, a, c, lg, lo, ?_, ?_⟩
  · rw [show (iq_uz X 0 7 (X 0 7 - 1)) 0 7 = X 0 7 - 1 by simp [iq_uz]]; omega
  · rcases s.2 with s | s
    · exact s.2.2.2
    · exact absurd s.1 (by omega)
theorem sf_J.topc {D : Int → Int} {g0 g X : iq_I} {o : Nat} {r : List Nat} {S : Int64} (h : sf_J D g0 g (o :: r) X S) : sf_top X = sf_c D o := by
  obtain ⟨-, -, -, -, -, -, dp, s⟩ := h
  simp only [List.length_cons] at dp
  rw [sf_ST] at s
  unfold sf_top
  rw [show X 0 7 - 1 = r.length by omega]
  exact s.1
section LV
variable {D : Int → Int} {g0 : iq_I} {m : Nat} {n : Int} {K T M B : Int → Int}
/-- leaving: what is open up to the innermost hold is left -/
theorem sf_lv (hV : sf_PV D m n K T M B) {g : iq_I} {S : Int64} : ∀ (st : List Nat) (X : iq_I), sf_J D g0 g st X S → sf_ok D m st → (sf_fh D st = -1 ∧ sf_J D g0 g [] (sf_vX K B st.length X) S ∧ (sf_vX K B st.length X) 0 4 = 1 ∧ (sf_vX K B st.length X) 0 14 = X 0 14) ∨ (∃ (o : Nat) (l r : List Nat), st = l ++ o :: r ∧ sf_fh D st = o ∧ D (6 * o) = 12 ∧ sf_J D g0 g (o :: r) (sf_vX K B st.length X) S ∧ (sf_vX K B st.length X) 0 3 = B (sf_c D o) ∧ (∀ i, ¬ i = 3 → ¬ i = 7 → (sf_vX K B st.length X) 0 i = X 0 i)) := by
  intro st
  induction st with
  | nil =>
    intro X h _
    refine .inl ⟨rfl, ?_, ?_, ?_⟩
    · exact h.x (fun j hj => sf_uzn X hj _ _) (fun k hk => by
        have : ¬ k = 4 := by omega
        simp [sf_vX, iq_uz, this])
    · simp [sf_vX, iq_uz]
    · simp [sf_vX, iq_uz]
  | cons o r ih =>
    intro X h ok
    obtain ⟨o1, o2, o3⟩ := ok.2 o List.mem_cons_self
    have rwo := hV.2.2.2.2.2.2.2 o o1 o2
    have et := h.topc
    rw [List.length_cons, sf_vX, et, sf_fh]
    rcases o3 with o3 | o3
    · have k4 := sf_rw12 rwo o3
      rw [if_pos k4.1, if_pos o3]
      refine .inr ⟨o, [], r, rfl, rfl, o3, h.x (fun j hj => sf_uzn X hj _ _) (fun k hk => ?_), by simp [iq_uz], fun i y1 y2 => by simp [iq_uz, y1]⟩
      have : ¬ k = 3 := by omega
      simp [iq_uz, this]
    · have k6 := sf_rw16 rwo o3
      have ok' : sf_ok D m r := ⟨by have := ok.1; simp only [List.length_cons] at this; omega, fun x hx => ok.2 x (List.mem_cons_of_mem _ hx)⟩
      rw [if_neg (by omega), if_neg (by omega)]
      rcases ih _ (h.pop o3) ok' with ⟨z1, z2, z3, z4⟩ | ⟨p, l, r', z1, z2, z3, z4, z5, z6⟩
      · exact .inl ⟨z1, z2, z3, by rw [z4]; simp [iq_uz]⟩
      · exact .inr ⟨p, o :: l, r', by rw [z1]; rfl, z2, z3, z4, z5, fun i y1 y2 => by rw [z6 i y1 y2]; simp [iq_uz, y2]⟩
/-- a hold is entered -/
theorem sf_J.push12 {g X : iq_I} {S : Int64} {st : List Nat} {k : Nat} {t : Int} (h : sf_J D g0 g st X S) (h12 : D (6 * k) = 12) (ht : t = D (6 * k + 1)) (hl : st.length < 3) : sf_J D g0 (iq_uz (iq_uz g 103 (g 77 45) t) 77 45 (g 77 45 + 1)) (k :: st) (sf_nX B X true (sf_c D k) 1) S := by
  have e7 := h.2.2.2.2.2.2.1
  unfold sf_nX
  rw [if_pos ⟨rfl, by omega⟩]
  obtain ⟨k1, z, a, c, lg, lo, dp, s⟩ := h
  have sr := s.rng
  have xj : ∀ j, ¬ j = 0 → ¬ j = 1 → ¬ j = 2 → (iq_uz (iq_uz (iq_uz X 1 (X 0 7) (sf_c D k)) 2 (X 0 7) 1) 0 7 (X 0 7 + 1)) j = X j := fun j y1 y2 y3 => by rw [sf_uzn _ y1, sf_uzn _ y3, sf_uzn _ y2]
  have x0 : ∀ i, ¬ i = 7 → (iq_uz (iq_uz (iq_uz X 1 (X 0 7) (sf_c D k)) 2 (X 0 7) 1) 0 7 (X 0 7 + 1)) 0 i = X 0 i := fun i y => by simp [iq_uz, y]
  have gj : ∀ j, ¬ j = 77 → ¬ j = 103 → (iq_uz (iq_uz g 103 (g 77 45) t) 77 45 (g 77 45 + 1)) j = g j := fun j y1 y2 => by rw [sf_uzn _ y1, sf_uzn _ y2]
  have g7 : ∀ i, ¬ i = 45 → (iq_uz (iq_uz g 103 (g 77 45) t) 77 45 (g 77 45 + 1)) 77 i = g 77 i := fun i y => by simp [iq_uz, y]
  unfold sf_J
  rw [xj 3 (by decide) (by decide) (by decide), xj 4 (by decide) (by decide) (by decide), xj 5 (by decide) (by decide) (by decide), xj 6 (by decide) (by decide) (by decide), x0 2 (by decide), x0 9 (by decide), x0 10 (by decide), x0 11 (by decide), x0 12 (by decide), x0 13 (by decide), x0 14 (by decide), gj 101 (by decide) (by decide), gj 104 (by decide) (by decide), gj 100 (by decide) (by decide), g7 43 (by decide), g7 44 (by decide), g7 46 (by decide)]
  refine ⟨(k1.uz (by omega)).uz (by omega), ⟨z.1, sf_MSc z.2 (gj 78 (by decide) (by decide))⟩, a, c, lg, lo, ?_, ?_⟩
  · rw [show (iq_uz (iq_uz (iq_uz X 1 (X 0 7) (sf_c D k)) 2 (X 0 7) 1) 0 7 (X 0 7 + 1)) 0 7 = X 0 7 + 1 by simp [iq_uz]]; simp only [List.length_cons]; omega
  · rw [show (iq_uz (iq_uz g 103 (g 77 45) t) 77 45 (g 77 45 + 1)) 77 45 = g 77 45 + 1 by simp [iq_uz], sf_ST]
    refine ⟨by rw [e7]; simp [iq_uz], .inr ⟨h12, ?_, ?_⟩⟩
    · rw [show g 77 45 + 1 - 1 = g 77 45 by omega, ← ht]; simp [iq_uz]
    · rw [show g 77 45 + 1 - 1 = g 77 45 by omega, e7]
      refine s.congr (fun i hi => ?_) (fun _ _ => rfl) (fun i y1 y2 => ?_)
      · have : ¬ (i : Int) = st.length := by omega
        simp [iq_uz, this]
      · have : ¬ i = g 77 45 := by omega
        simp [iq_uz, this]
/-- a loop is entered -/
theorem sf_J.push16 {g X : iq_I} {S : Int64} {st : List Nat} {k : Nat} {w : Int} (h : sf_J D g0 g st X S) (h16 : D (6 * k) = 16) (hw : 1 ≤ w) (hl : st.length < 3) (hst : ∀ o, o ∈ st → o < k) (h17 : ¬ D (6 * (k + 1 : Nat)) = 17) : sf_J D g0 (iq_uz g 100 k (w - 1)) (k :: st) (sf_nX B X true (sf_c D k) w) S := by
  have e7 := h.2.2.2.2.2.2.1
  unfold sf_nX
  rw [if_pos ⟨rfl, by omega⟩]
  obtain ⟨k1, z, a, c, lg, lo, dp, s⟩ := h
  have xj : ∀ j, ¬ j = 0 → ¬ j = 1 → ¬ j = 2 → (iq_uz (iq_uz (iq_uz X 1 (X 0 7) (sf_c D k)) 2 (X 0 7) w) 0 7 (X 0 7 + 1)) j = X j := fun j y1 y2 y3 => by rw [sf_uzn _ y1, sf_uzn _ y3, sf_uzn _ y2]
  have x0 : ∀ i, ¬ i = 7 → (iq_uz (iq_uz (iq_uz X 1 (X 0 7) (sf_c D k)) 2 (X 0 7) w) 0 7 (X 0 7 + 1)) 0 i = X 0 i := fun i y => by simp [iq_uz, y]
  have gj : ∀ j, ¬ j = 100 → (iq_uz g 100 k (w - 1)) j = g j := fun j y1 => sf_uzn _ y1 _ _
  unfold sf_J
  rw [xj 3 (by decide) (by decide) (by decide), xj 4 (by decide) (by decide) (by decide), xj 5 (by decide) (by decide) (by decide), xj 6 (by decide) (by decide) (by decide), x0 2 (by decide), x0 9 (by decide), x0 10 (by decide), x0 11 (by decide), x0 12 (by decide), x0 13 (by decide), x0 14 (by decide), gj 101 (by decide), gj 104 (by decide), gj 103 (by decide), gj 77 (by decide)]
  refine ⟨k1.uz (by omega), ⟨z.1, sf_MSc z.2 (gj 78 (by decide))⟩, a, c, lg, lo, ?_, ?_⟩
  · rw [show (iq_uz (iq_uz (iq_uz X 1 (X 0 7) (sf_c D k)) 2 (X 0 7) w) 0 7 (X 0 7 + 1)) 0 7 = X 0 7 + 1 by simp [iq_uz]]; simp only [List.length_cons]; omega
  · rw [sf_ST]
    refine ⟨by rw [e7]; simp [iq_uz], .inl ⟨h16, ?_, ⟨?_, h17⟩, ?_⟩⟩
    · rw [e7]; simp [iq_uz]
    · simp [iq_uz]; omega
    · rw [e7]
      refine s.congr (fun i hi => ?_) (fun x hx => ?_) (fun _ _ _ => rfl)
      · have : ¬ (i : Int) = st.length := by omega
        simp [iq_uz, this]
      · have := hst x hx
        have : ¬ (x : Int) = k := by omega
        simp [iq_uz, this]
end LV
theorem sf_rw9 {D K T M : Int → Int} {i : Nat} (h : sf_rww D K T M i) : (D (6 * i) = 10 ∧ K (sf_c D i) = 0 ∧ M (sf_c D i) = D (6 * i + 1) ∧ (0 ≤ M (sf_c D i) ∧ M (sf_c D i) ≤ 59)) ∨ (D (6 * i) = 11 ∧ K (sf_c D i) = 1 ∧ M (sf_c D i) = D (6 * i + 1) ∧ (0 ≤ M (sf_c D i) ∧ M (sf_c D i) ≤ 59)) ∨ (D (6 * i) = 5 ∧ K (sf_c D i) = 2 ∧ M (sf_c D i) = D (6 * i + 1) ∧ (0 ≤ M (sf_c D i) ∧ M (sf_c D i) ≤ 59)) ∨ (D (6 * i) = 14 ∧ K (sf_c D i) = 3) ∨ (D (6 * i) = 12 ∧ K (sf_c D i) = 4 ∧ M (sf_c D i) = D (6 * i + 1) ∧ (0 ≤ M (sf_c D i) ∧ M (sf_c D i) ≤ 59)) ∨ (1500 ≤ D (6 * i) ∧ D (6 * i) ≤ 1520 ∧ K (sf_c D i) = 5) ∨ (D (6 * i) = 16 ∧ K (sf_c D i) = 6 ∧ M (sf_c D i) = D (6 * i + 1) ∧ (1 ≤ M (sf_c D i) ∧ M (sf_c D i) ≤ 99)) ∨ (D (6 * i) = 13 ∧ K (sf_c D i) = 7) ∨ (D (6 * i) = 18 ∧ K (sf_c D i) = 8) := by
  unfold sf_rww at h
  rcases h with h | h | h | h | h | h | h | h | h | h | h
  · exact .inl h
  · exact .inr (.inl h)
  · exact .inr (.inr (.inl h))
  · exact .inr (.inr (.inr (.inl h)))
  · exact .inr (.inr (.inr (.inr (.inl h))))
  · exact .inr (.inr (.inr (.inr (.inr (.inl ⟨by omega, by omega, h.2.1⟩)))))
  · exact .inr (.inr (.inr (.inr (.inr (.inl ⟨by omega, by omega, h.2.1⟩)))))
  · exact .inr (.inr (.inr (.inr (.inr (.inl ⟨by omega, by omega, h.2.1⟩)))))
  · exact .inr (.inr (.inr (.inr (.inr (.inr (.inl h))))))
  · exact .inr (.inr (.inr (.inr (.inr (.inr (.inr (.inl h)))))))
  · exact .inr (.inr (.inr (.inr (.inr (.inr (.inr (.inr h)))))))
theorem sf_hl_suf (D : Int → Int) : ∀ (L l : List Nat) (o : Nat) (r : List Nat), sf_hl D L = l ++ o :: r → ∃ l' r', L = l' ++ o :: r' ∧ r = sf_hl D r' := by
  intro L
  induction L with
  | nil => intro l o r h; cases l <;> cases h
  | cons x L ih =>
    intro l o r h
    rw [sf_hl] at h
    split at h
    · cases l with
      | nil =>
        injection h with h1 h2
        exact ⟨[], L, by rw [h1]; rfl, h2.symm⟩
      | cons y l =>
        injection h with h1 h2
        obtain ⟨l', r', e1, e2⟩ := ih l o r h2
        exact ⟨x :: l', r', by rw [e1]; rfl, e2⟩
    · obtain ⟨l', r', e1, e2⟩ := ih l o r h
      exact ⟨x :: l', r', by rw [e1]; rfl, e2⟩
theorem sf_ml {N : Nat} {xs : Nat → Int32} {Q : iq_T} {l : iq_J} {D : Int → Int} {g0 : iq_I} {m : Nat} {n : Int} {K T M B : Int → Int} (hV : sf_PV D m n K T M B) (hP : sf_GP n K T M B) (hR : ∀ i, 0 ≤ i → i < 360 → g0 78 (92 + i) = D i) (hm : g0 78 10 = m) (v1 : Int) (r : Nat) : ∀ (k : Nat) (g X : iq_I) (S : Int64) (b : Int) (d3 d4 : Option iq_V) (f : Nat), k ≤ m → (k = m ∨ ¬ D (6 * k) = 17) → sf_J D g0 g (sf_hl D (sf_E D k)) X S → X 0 3 = sf_c D k → X 0 4 = 0 → X 0 14 = 0 → sf_GX n b X → X 0 9 + r = 300 → 4 * r + 1 ≤ f → (∀ (g' X' : iq_I) (S' : Int64) (st : List Nat) (v2 : Int) (d3 d4 : Option iq_V), sf_J D g0 g' st X' S' → sf_ok D m st → sf_lp n K T M B f X S = (X', S') → iq_P N xs 345 174 [some (iq_r 77), some (iq_i v1), some (iq_i v2), d3, d4] [] g' l Q) → iq_P N xs 345 42 [some (iq_r 77), some (iq_i v1), some (iq_i k), d3, d4] [] g l Q := by
  have hm60 := hV.1
  have hn := hV.2.1
  induction r with
  | zero =>
    intro k g X S b d3 d4 f k1 k2 h h3 h4 h14 hX h9 hf q
    by_cases km : k = m
    · subst km
      exact sf_mlE hV hm h h3 h4 h14 (by omega) q
    have hk : k < m := by omega
    have h17 : ¬ D (6 * k) = 17 := by omega
    have e10 : g 78 10 = m := by rw [h.1.2.2 10 (by omega)]; exact hm
    have n44 := h.2.2.1.2
    have w4 := h.2.2.2.1.2.2.2.2
    have cc := sf_c_le D (i := k + 1) (j := m) (by omega)
    rw [sf_c, if_neg h17] at cc
    have ea : ¬ sf_ae B X = true := by rw [sf_nae hV hk h17 h h3]; decide
    have eg : ¬ sf_go n X = true := by unfold sf_go; simp; omega
    have eX : sf_tX n K T M B X S = iq_uz (iq_uz (iq_uz X 0 14 1) 0 4 1) 0 9 (X 0 9) := by
      unfold sf_tX
      rw [if_neg ea, if_neg eg]
      unfold sf_cX
      rw [if_pos (by omega), if_neg (by omega)]
    have eS : sf_tS n K M B X S = S := by
      unfold sf_tS
      rw [if_neg ea, if_neg eg]
    refine B345_p42_77 _ _ _ _ _ _ ?_
    rw [e10, w4, h14, n44]
    refine ⟨by omega, fun h => by omega, fun _ => ⟨by omega, fun h => absurd rfl h, fun _ => ⟨by omega, fun h => by omega, fun _ => ?_⟩⟩⟩
    refine B345_p42_77 _ _ _ _ _ _ ?_
    rw [show (iq_uz g 101 4 1) 78 10 = m by rw [← e10]; simp [iq_uz], show (iq_uz g 101 4 1) 101 4 = 1 by simp [iq_uz]]
    refine ⟨by omega, fun h => by omega, fun _ => ⟨by omega, fun _ => ?_, fun h => by omega⟩⟩
    refine q _ (iq_uz (iq_uz (iq_uz X 0 14 1) 0 4 1) 0 9 (X 0 9)) S _ _ _ _ ?_ (hV.ok k1) ?_
    · obtain ⟨k1, z, a, c, lg, lo, dp, s⟩ := h
      have xj : ∀ j, ¬ j = 0 → (iq_uz (iq_uz (iq_uz X 0 14 1) 0 4 1) 0 9 (X 0 9)) j = X j := fun j y => by rw [sf_uzn _ y, sf_uzn _ y, sf_uzn _ y]
      have x0 : ∀ i, ¬ i = 4 → ¬ i = 14 → (iq_uz (iq_uz (iq_uz X 0 14 1) 0 4 1) 0 9 (X 0 9)) 0 i = X 0 i := fun i y1 y2 => by
        by_cases c : i = 9
        · rw [c]; simp [iq_uz]
        · simp [iq_uz, c, y1, y2]
      have gj : ∀ j, ¬ j = 101 → (iq_uz g 101 4 1) j = g j := fun j y => sf_uzn _ y _ _
      unfold sf_J
      rw [xj 1 (by decide), xj 2 (by decide), xj 3 (by decide), xj 4 (by decide), xj 5 (by decide), xj 6 (by decide), x0 2 (by decide) (by decide), x0 7 (by decide) (by decide), x0 9 (by decide) (by decide), x0 10 (by decide) (by decide), x0 11 (by decide) (by decide), x0 12 (by decide) (by decide), x0 13 (by decide) (by decide), gj 77 (by decide), gj 104 (by decide), gj 100 (by decide), gj 103 (by decide)]
      refine ⟨k1.uz (by omega), ⟨z.1, sf_MSc z.2 (gj 78 (by decide))⟩, a, ?_, lg, lo, dp, s⟩
      obtain ⟨c0, c1, c2, c3, c4⟩ := c
      simp [iq_uz, c0, c1, c2, c3]
    · rw [show f = (f - 1) + 1 by omega, sf_lp1 S h4, eX, eS]
      exact sf_lp0 S (by simp [iq_uz]) _
  | succ r ih =>
    intro k g X S b d3 d4 f k1 k2 h h3 h4 h14 hX h9 hf q
    by_cases km : k = m
    · subst km
      exact sf_mlE hV hm h h3 h4 h14 (by omega) q
    have hk : k < m := by omega
    have h17 : ¬ D (6 * k) = 17 := by omega
    have e10 : g 78 10 = m := by rw [h.1.2.2 10 (by omega)]; exact hm
    have n44 := h.2.2.1.2
    have w4 := h.2.2.2.1.2.2.2.2
    have rwk := hV.2.2.2.2.2.2.2 k hk h17
    have r0 := h.row hR (6 * k) (by omega) (by omega)
    have cc := sf_c_le D (i := k + 1) (j := m) (by omega)
    have ck : sf_c D (k + 1) = sf_c D k + 1 := by rw [sf_c, if_neg h17]
    have ea : ¬ sf_ae B X = true := by rw [sf_nae hV hk h17 h h3]; decide
    have eg : sf_go n X = true := by unfold sf_go; simp; omega
    have eC : sf_cX n X = iq_uz (iq_uz (iq_uz X 0 14 0) 0 4 0) 0 9 (X 0 9 + 1) := by
      unfold sf_cX
      rw [if_pos (by omega), if_pos (by omega)]
    have eX : sf_tX n K T M B X S = sf_oX K T M B (sf_bX n X) S (sf_c D k) := by
      unfold sf_tX
      rw [if_neg ea, if_pos eg, h3]
    have eS : sf_tS n K M B X S = sf_oS K M (sf_bX n X) S (sf_c D k) := by
      unfold sf_tS
      rw [if_neg ea, if_pos eg, h3]
    have hX1 := hX.tX hP S
    have hYX := hX.bX (show X 0 3 < n by omega)
    have yj : ∀ j, ¬ j = 0 → (sf_bX n X) j = X j := fun j y => by
      unfold sf_bX
      rw [sf_uzn _ y, eC, sf_uzn _ y, sf_uzn _ y, sf_uzn _ y]
    have y0 : ∀ i, ¬ i = 3 → ¬ i = 4 → ¬ i = 9 → ¬ i = 14 → (sf_bX n X) 0 i = X 0 i := fun i a1 a2 a3 a4 => by
      unfold sf_bX
      rw [eC]
      simp [iq_uz, a1, a2, a3, a4]
    have y3 : (sf_bX n X) 0 3 = sf_c D (k + 1) := by
      unfold sf_bX
      rw [show (iq_uz (sf_cX n X) 0 3 (X 0 3 + 1)) 0 3 = X 0 3 + 1 by simp [iq_uz], h3, ck]
      omega
    have y4 : (sf_bX n X) 0 4 = 0 := by unfold sf_bX; rw [eC]; simp [iq_uz]
    have y9 : (sf_bX n X) 0 9 = X 0 9 + 1 := by unfold sf_bX; rw [eC]; simp [iq_uz]
    have y14 : (sf_bX n X) 0 14 = 0 := by unfold sf_bX; rw [eC]; simp [iq_uz]
    have hY : sf_J D g0 (iq_uz g 77 44 (X 0 9 + 1)) (sf_hl D (sf_E D k)) (sf_bX n X) S := by
      refine (h.n (X 0 9 + 1)).x (fun j hj => by rw [yj j hj, sf_uzn X hj]) (fun i hi => ?_)
      by_cases c : i = 9
      · rw [c, y9]; simp [iq_uz]
      · by_cases d : i = 14
        · rw [d, y14, ← h14]; simp [iq_uz]
        · rw [y0 i (by omega) (by omega) c d]; simp [iq_uz, c]
    generalize sf_bX n X = Y at *
    have hlk := hV.2.2.2.1 (k + 1) (by omega)
    have h9r := hX.2.2.2.2.2.1
    have stl := sf_hl_len D (sf_E D k)
    have stm : ∀ o, o ∈ sf_hl D (sf_E D k) → o < k := fun o ho => sf_E_lt D k o (sf_hl_mem D _ o ho).1
    -- on to the ends
    have nextp : ∀ (k1 : Nat) (g1 X1 : iq_I) (S1 : Int64) (w : Int) (c3 c4 d3 d4 : Option iq_V), k1 ≤ m → sf_tX n K T M B X S = X1 → sf_tS n K M B X S = S1 → sf_J D g0 g1 (sf_hl D (sf_E D k1)) X1 S1 → X1 0 3 = sf_c D k1 → X1 0 4 = 0 → X1 0 9 = X 0 9 + 1 → X1 0 14 = 0 → iq_P N xs 342 2 [some (iq_r 77), some (iq_i w), some (iq_i k1), c3, c4] [] g1 l (fun r g1 l2 => ∃ z3, r = some (iq_i z3) ∧ ∃ z4, some (iq_i z3) = some (iq_i z4) ∧ iq_P N xs 345 42 [some (iq_r 77), some (iq_i v1), some (iq_i z4), d3, d4] [] g1 l2 Q) := by
      intro k1 g1 X1 S1 w c3 c4 d3 d4 b1 b2 b3 j1 b4 b5 b6 b7
      rw [b2] at hX1
      refine sf_be hV hP hR hm w (m - k1) k1 g1 X1 S1 _ _ _ (by omega) j1 b4 b5 b7 hX1 (fun k' g' X' S' j a1 a2 a3 a4 a5 a6 a7 a8 a9 a10 => ⟨_, rfl, _, rfl, ?_⟩)
      have hl := hV.2.2.2.1 k1 b1
      refine ih k' g' X' S' _ _ _ (f - 1 - j) a1 a2 a3 a4 a5 a7 a8 (by omega) (by omega) (fun g2 X2 S2 st v2 d3 d4 e1 e2 e3 => q g2 X2 S2 st v2 d3 d4 e1 e2 ?_)
      rw [show f = (f - 1 - j + j) + 1 by omega, sf_lp1 S h4, b2, b3, a10]
      exact e3
    have next : ∀ (k1 : Nat) (g1 X1 : iq_I) (S1 : Int64) (d3 d4 : Option iq_V), k1 ≤ m → sf_tX n K T M B X S = X1 → sf_tS n K M B X S = S1 → sf_J D g0 g1 (sf_hl D (sf_E D k1)) X1 S1 → X1 0 3 = sf_c D k1 → X1 0 4 = 0 → X1 0 9 = X 0 9 + 1 → X1 0 14 = 0 → iq_P N xs 342 0 [some (iq_r 77), some (iq_i k1), none, none, none] [] g1 l (fun r g1 l2 => ∃ z3, r = some (iq_i z3) ∧ ∃ z4, some (iq_i z3) = some (iq_i z4) ∧ iq_P N xs 345 42 [some (iq_r 77), some (iq_i v1), some (iq_i z4), d3, d4] [] g1 l2 Q) :=
      fun k1 g1 X1 S1 d3 d4 b1 b2 b3 j1 b4 b5 b6 b7 => B342_77 _ _ _ (nextp k1 g1 X1 S1 _ _ _ d3 d4 b1 b2 b3 j1 b4 b5 b6 b7)
    have k1c : ((k : Nat) : Int) + 1 = ((k + 1 : Nat) : Int) := by omega
    have q0 := hY.row hR (6 * k) (by omega) (by omega)
    have q1 := hY.row hR (6 * k + 1) (by omega) (by omega)
    rw [← Int.add_assoc] at q1
    refine B345_p42_77 _ _ _ _ _ _ ?_
    rw [e10, w4, h14, n44, r0]
    refine ⟨by omega, fun h => by omega, fun _ => ⟨by omega, fun h => absurd rfl h, fun _ => ⟨by omega, fun _ => ⟨by omega, ?_⟩, fun h => by omega⟩⟩⟩
    have plain : ∀ a, D (6 * k) = a → ¬ a = 12 → ¬ a = 16 → a < 1500 → sf_E D (k + 1) = sf_E D k := fun a e a1 a2 a3 => by
      rw [sf_E, e, if_neg (by unfold sf_isO; simp; omega), if_neg (by omega)]
    rcases sf_rw9 rwk with ⟨w1, w2, w3, w4⟩ | ⟨w1, w2, w3, w4⟩ | ⟨w1, w2, w3, w4⟩ | ⟨w1, w2⟩ | ⟨w1, w2, w3, w4⟩ | ⟨w1, w1', w2⟩ | ⟨w1, w2, w3, w4⟩ | ⟨w1, w2⟩ | ⟨w1, w2⟩
    · -- press
      have Ek := plain 10 w1 (by decide) (by decide) (by decide)
      have tX : sf_tX n K T M B X S = sf_sX Y S (M (sf_c D k)) := by rw [eX]; unfold sf_oX; rw [w2]; rfl
      have tS : sf_tS n K M B X S = sf_sS Y S (M (sf_c D k)) := by rw [eS]; unfold sf_oS; rw [w2]; rfl
      rw [w1]
      refine ⟨by omega, fun _ => B340_77 _ _ _ ⟨by omega, by omega, ?_⟩, fun h => by omega⟩
      rw [q0, q1, w1, ← w3]
      refine ⟨by omega, ⟨fun h => by omega, fun h => by omega, fun h => by omega, fun h => by omega, fun h => by omega, fun _ => ?_, fun h => by omega, fun h => by omega, fun h => by omega, fun h => by omega, trivial⟩, fun h => by omega⟩
      refine sf_mSt hY w4 (fun a g' j => ⟨_, rfl, by omega, _, rfl, ?_⟩) (fun a => ⟨_, rfl, by omega, _, rfl, ?_⟩)
      · refine sf_p121 (a := 10) (by rw [j.row hR (6 * k) (by omega) (by omega)]; exact w1) (by omega) (by omega) (by decide) (by decide) (by decide) (by omega) (fun _ => ?_) (fun h => by omega)
        rw [k1c]
        exact next (k + 1) g' _ _ _ _ (by omega) tX tS (by rw [Ek]; exact j) (by rw [sf_sX0 _ _ _ (by decide) (by decide)]; exact y3) (by rw [sf_sX0 _ _ _ (by decide) (by decide)]; exact y4) (by rw [sf_sX0 _ _ _ (by decide) (by decide)]; exact y9) (by rw [sf_sX0 _ _ _ (by decide) (by decide)]; exact y14)
      · refine sf_p121 (a := 10) (by rw [q0]; exact w1) (by omega) (by omega) (by decide) (by decide) (by decide) (by omega) (fun h => by omega) (fun _ => ?_)
        rw [k1c]
        have j := hY.c0
        have ej : iq_uz Y 0 10 (Y 0 10 + 1) = sf_sX Y S (M (sf_c D k)) := by unfold sf_sX; rw [a, if_neg (by decide)]
        have es : sf_sS Y S (M (sf_c D k)) = S := by unfold sf_sS; rw [a, if_neg (by decide)]
        rw [ej] at j
        exact next (k + 1) _ _ _ _ _ (by omega) tX (by rw [tS, es]) (by rw [Ek]; exact j) (by rw [sf_sX0 _ _ _ (by decide) (by decide)]; exact y3) (by rw [sf_sX0 _ _ _ (by decide) (by decide)]; exact y4) (by rw [sf_sX0 _ _ _ (by decide) (by decide)]; exact y9) (by rw [sf_sX0 _ _ _ (by decide) (by decide)]; exact y14)
    · -- lift
      have Ek := plain 11 w1 (by decide) (by decide) (by decide)
      have tX : sf_tX n K T M B X S = sf_lX Y S (M (sf_c D k)) := by rw [eX]; unfold sf_oX; rw [w2]; rfl
      have tS : sf_tS n K M B X S = sf_rlS S (M (sf_c D k)) := by rw [eS]; unfold sf_oS; rw [w2]; rfl
      rw [w1]
      refine ⟨by omega, fun _ => B340_77 _ _ _ ⟨by omega, by omega, ?_⟩, fun h => by omega⟩
      rw [q0, q1, w1, ← w3]
      refine ⟨by omega, ⟨fun h => by omega, fun h => by omega, fun h => by omega, fun h => by omega, fun h => by omega, fun h => by omega, fun _ => ?_, fun h => by omega, fun h => by omega, fun h => by omega, trivial⟩, fun h => by omega⟩
      refine sf_mLi hY w4 (fun a g' j => ⟨_, rfl, by omega, _, rfl, ?_⟩) (fun a => ⟨_, rfl, by omega, _, rfl, ?_⟩)
      · refine sf_p121 (a := 11) (by rw [j.row hR (6 * k) (by omega) (by omega)]; exact w1) (by omega) (by omega) (by decide) (by decide) (by decide) (by omega) (fun _ => ?_) (fun h => by omega)
        rw [k1c]
        exact next (k + 1) g' _ _ _ _ (by omega) tX tS (by rw [Ek]; exact j) (by rw [sf_lX0 _ _ _ (by decide) (by decide)]; exact y3) (by rw [sf_lX0 _ _ _ (by decide) (by decide)]; exact y4) (by rw [sf_lX0 _ _ _ (by decide) (by decide)]; exact y9) (by rw [sf_lX0 _ _ _ (by decide) (by decide)]; exact y14)
      · refine sf_p121 (a := 11) (by rw [q0]; exact w1) (by omega) (by omega) (by decide) (by decide) (by decide) (by omega) (fun h => by omega) (fun _ => ?_)
        rw [k1c]
        have j := hY.c0
        have ej : iq_uz Y 0 10 (Y 0 10 + 1) = sf_lX Y S (M (sf_c D k)) := by unfold sf_lX; rw [a, if_neg (by decide)]
        have es : sf_rlS S (M (sf_c D k)) = S := by unfold sf_rlS; rw [a, if_neg (by decide)]
        rw [ej] at j
        exact next (k + 1) _ _ _ _ _ (by omega) tX (by rw [tS, es]) (by rw [Ek]; exact j) (by rw [sf_lX0 _ _ _ (by decide) (by decide)]; exact y3) (by rw [sf_lX0 _ _ _ (by decide) (by decide)]; exact y4) (by rw [sf_lX0 _ _ _ (by decide) (by decide)]; exact y9) (by rw [sf_lX0 _ _ _ (by decide) (by decide)]; exact y14)
    · -- root
      have Ek := plain 5 w1 (by decide) (by decide) (by decide)
      have tX : sf_tX n K T M B X S = sf_mX Y (M (sf_c D k)) := by rw [eX]; unfold sf_oX; rw [w2]; rfl
      have tS : sf_tS n K M B X S = S := by rw [eS]; unfold sf_oS; rw [w2]; rfl
      rw [w1]
      refine ⟨by omega, fun _ => B340_77 _ _ _ ⟨by omega, by omega, ?_⟩, fun h => by omega⟩
      rw [q0, q1, w1, ← w3]
      refine ⟨by omega, ⟨fun _ => ?_, fun h => by omega, fun h => by omega, fun h => by omega, fun h => by omega, fun h => by omega, fun h => by omega, fun h => by omega, fun h => by omega, fun h => by omega, trivial⟩, fun h => by omega⟩
      refine sf_mRo hY w4 (fun a g' j => ⟨_, rfl, by omega, _, rfl, ?_⟩) (fun a => ⟨_, rfl, by omega, _, rfl, ?_⟩)
      · refine sf_p121 (a := 5) (by rw [j.row hR (6 * k) (by omega) (by omega)]; exact w1) (by omega) (by omega) (by decide) (by decide) (by decide) (by omega) (fun _ => ?_) (fun h => by omega)
        rw [k1c]
        have ej : iq_uz Y 4 5 (M (sf_c D k)) = sf_mX Y (M (sf_c D k)) := by unfold sf_mX; rw [a, if_pos rfl]
        rw [ej] at j
        exact next (k + 1) g' _ _ _ _ (by omega) tX tS (by rw [Ek]; exact j) (by rw [sf_mX0 _ _ (by decide)]; exact y3) (by rw [sf_mX0 _ _ (by decide)]; exact y4) (by rw [sf_mX0 _ _ (by decide)]; exact y9) (by rw [sf_mX0 _ _ (by decide)]; exact y14)
      · refine sf_p121 (a := 5) (by rw [q0]; exact w1) (by omega) (by omega) (by decide) (by decide) (by decide) (by omega) (fun h => by omega) (fun _ => ?_)
        rw [k1c]
        have j := hY.c0
        have ej : iq_uz Y 0 10 (Y 0 10 + 1) = sf_mX Y (M (sf_c D k)) := by unfold sf_mX; rw [a, if_neg (by decide)]
        rw [ej] at j
        exact next (k + 1) _ _ _ _ _ (by omega) tX tS (by rw [Ek]; exact j) (by rw [sf_mX0 _ _ (by decide)]; exact y3) (by rw [sf_mX0 _ _ (by decide)]; exact y4) (by rw [sf_mX0 _ _ (by decide)]; exact y9) (by rw [sf_mX0 _ _ (by decide)]; exact y14)
    · -- any
      have Ek := plain 14 w1 (by decide) (by decide) (by decide)
      have tX : sf_tX n K T M B X S = sf_aX Y S := by rw [eX]; unfold sf_oX; rw [w2]; rfl
      have tS : sf_tS n K M B X S = sf_aS Y S := by rw [eS]; unfold sf_oS; rw [w2]; rfl
      have x3 : (sf_aX Y S) 0 3 = sf_c D (k + 1) := by rw [sf_aX0 _ _ (by decide) (by decide) (by decide) (by decide)]; exact y3
      have x4 : (sf_aX Y S) 0 4 = 0 := by rw [sf_aX0 _ _ (by decide) (by decide) (by decide) (by decide)]; exact y4
      have x9 : (sf_aX Y S) 0 9 = X 0 9 + 1 := by rw [sf_aX0 _ _ (by decide) (by decide) (by decide) (by decide)]; exact y9
      have x14 : (sf_aX Y S) 0 14 = 0 := by rw [sf_aX0 _ _ (by decide) (by decide) (by decide) (by decide)]; exact y14
      rw [w1]
      refine ⟨by omega, fun _ => B340_77 _ _ _ ⟨by omega, by omega, ?_⟩, fun h => by omega⟩
      rw [q0, w1]
      refine ⟨by omega, ⟨fun h => by omega, fun h => by omega, fun h => by omega, fun h => by omega, fun h => by omega, fun h => by omega, fun h => by omega, fun h => by omega, fun h => by omega, fun _ => ?_, trivial⟩, fun h => by omega⟩
      refine sf_mAn hY hYX.2.2.2.2.1 (fun g' j => ⟨_, rfl, by omega, _, rfl, ?_⟩) (fun g' j ej => ⟨_, rfl, by omega, _, rfl, ?_⟩)
      · refine sf_p121 (a := 14) (by rw [j.row hR (6 * k) (by omega) (by omega)]; exact w1) (by omega) (by omega) (by decide) (by decide) (by decide) (by omega) (fun _ => ?_) (fun h => by omega)
        rw [k1c]
        exact next (k + 1) g' _ _ _ _ (by omega) tX tS (by rw [Ek]; exact j) x3 x4 x9 x14
      · refine sf_p121 (a := 14) (by rw [j.row hR (6 * k) (by omega) (by omega)]; exact w1) (by omega) (by omega) (by decide) (by decide) (by decide) (by omega) (fun h => by omega) (fun _ => ?_)
        rw [k1c]
        have j2 := j.c0
        rw [show (sf_a2 Y) 0 10 = Y 0 10 by unfold sf_a2; simp [iq_uz], ← ej] at j2
        exact next (k + 1) _ _ _ _ _ (by omega) tX tS (by rw [Ek]; exact j2) x3 x4 x9 x14
    · -- hold
      have tX : sf_tX n K T M B X S = sf_nX B (sf_sX Y S (M (sf_c D k))) (sf_can Y S (M (sf_c D k))) (sf_c D k) 1 := by rw [eX]; unfold sf_oX; rw [w2]; rfl
      have tS : sf_tS n K M B X S = sf_sS Y S (M (sf_c D k)) := by rw [eS]; unfold sf_oS; rw [w2]; rfl
      have op : sf_isO (D (6 * k)) = true := by rw [w1]; decide
      have Ek : sf_E D (k + 1) = k :: sf_E D k := by rw [sf_E, if_pos op]
      rw [Ek] at hlk
      simp only [List.length_cons] at hlk
      obtain ⟨cl, f1, f2, f3, f4, f5, f6⟩ := hV.2.2.2.2.2.1 k hk op
      have Ec := hV.after f4 f5
      have cc1 : sf_c D (cl + 1) = sf_c D cl := by rw [sf_c, if_pos f4]; rfl
      rw [w1]
      refine ⟨by omega, fun _ => B340_77 _ _ _ ⟨by omega, by omega, ?_⟩, fun h => by omega⟩
      rw [q0, q1, w1, ← w3]
      refine ⟨by omega, ⟨fun h => by omega, fun h => by omega, fun h => by omega, fun h => by omega, fun h => by omega, fun h => by omega, fun h => by omega, fun _ => ?_, fun h => by omega, fun h => by omega, trivial⟩, fun h => by omega⟩
      refine B337_77 _ _ _ (sf_mSt hY w4 (fun a g' j => ⟨_, rfl, by omega, fun _ => ⟨?_, _, rfl, by omega, _, rfl, ?_⟩, fun h => by omega⟩) (fun a => ⟨_, rfl, by omega, fun h => by omega, fun _ => ⟨_, rfl, by omega, _, rfl, ?_⟩⟩))
      · have := j.2.2.2.2.2.2.2.rng
        omega
      · have j2 := j.push12 (B := B) (k := k) w1 w3 (by omega)
        have e2 := j2.row hR (6 * k) (by omega) (by omega)
        rw [w1] at e2
        have xz : ∀ i, ¬ i = 10 → ¬ i = 11 → ¬ i = 7 → (sf_nX B (sf_sX Y S (M (sf_c D k))) true (sf_c D k) 1) 0 i = Y 0 i := fun i y1 y2 y3 => by
          have d7 := j.2.2.2.2.2.2.1
          unfold sf_nX
          rw [if_pos ⟨rfl, by omega⟩, ← sf_sX0 Y S (M (sf_c D k)) y1 y2]
          simp [iq_uz, y3]
        rw [a] at tX
        refine B345_p121_77 _ _ _ _ _ _ ⟨by omega, fun _ => ⟨by omega, ?_⟩, fun h => by omega⟩
        rw [e2]
        refine ⟨by omega, fun _ => B344_77 _ _ _ _ ⟨by omega, ?_⟩, fun h => by omega⟩
        rw [e2]
        refine ⟨by omega, fun _ => ⟨by omega, by omega, fun h => absurd rfl h, fun _ => ⟨by omega, fun _ => ?_, fun h => by omega⟩⟩, fun h => by omega⟩
        rw [k1c]
        exact next (k + 1) _ _ _ _ _ (by omega) tX tS (by rw [Ek, sf_hl, if_pos (.inl w1)]; exact j2) (by rw [xz 3 (by decide) (by decide) (by decide)]; exact y3) (by rw [xz 4 (by decide) (by decide) (by decide)]; exact y4) (by rw [xz 9 (by decide) (by decide) (by decide)]; exact y9) (by rw [xz 14 (by decide) (by decide) (by decide)]; exact y14)
      · have j := hY.c0
        have ej : sf_sX Y S (M (sf_c D k)) = iq_uz Y 0 10 (Y 0 10 + 1) := by unfold sf_sX; rw [a, if_neg (by decide)]
        have es : sf_sS Y S (M (sf_c D k)) = S := by unfold sf_sS; rw [a, if_neg (by decide)]
        have en : sf_nX B (sf_sX Y S (M (sf_c D k))) (sf_can Y S (M (sf_c D k))) (sf_c D k) 1 = iq_uz (iq_uz Y 0 10 (Y 0 10 + 1)) 0 3 (B (sf_c D k)) := by
          unfold sf_nX
          rw [a, if_neg (fun z => absurd z.1 (by decide)), ej]
        have j2 := j.x (X' := iq_uz (iq_uz Y 0 10 (Y 0 10 + 1)) 0 3 (B (sf_c D k))) (fun i hi => sf_uzn _ hi _ _) (fun i hi => by
          have : ¬ i = 3 := by omega
          simp [iq_uz, this])
        have e2 := j2.row hR (6 * k) (by omega) (by omega)
        have e4 := j2.row hR (6 * k + 4) (by omega) (by omega)
        rw [w1] at e2
        rw [← Int.add_assoc, f1] at e4
        refine B345_p121_77 _ _ _ _ _ _ ⟨by omega, fun h => absurd rfl h, fun _ => ⟨by omega, ?_⟩⟩
        rw [q0, w1]
        refine ⟨by omega, fun _ => B344_77 _ _ _ _ ⟨by omega, ?_⟩, fun h => by omega⟩
        rw [e2, e4]
        refine ⟨by omega, fun _ => ⟨by omega, by omega, fun h => absurd rfl h, fun _ => ⟨by omega, fun h => absurd rfl h, fun _ => ⟨by omega, ?_⟩⟩⟩, fun h => by omega⟩
        rw [show ((cl : Nat) : Int) + 1 = ((cl + 1 : Nat) : Int) by omega]
        exact next (cl + 1) _ _ _ _ _ (by omega) (by rw [tX, en]) (by rw [tS, es]) (by rw [Ec]; exact j2) (by rw [cc1, ← f6]; simp [iq_uz]) (by rw [← y4]; simp [iq_uz]) (by rw [← y9]; simp [iq_uz]) (by rw [← y14]; simp [iq_uz])
    · -- when
      have tX : sf_tX n K T M B X S = if sf_so Y S (T (sf_c D k)) (M (sf_c D k)) = true then Y else iq_uz Y 0 3 (B (sf_c D k)) := by rw [eX]; unfold sf_oX; rw [w2]; rfl
      have tS : sf_tS n K M B X S = S := by rw [eS]; unfold sf_oS; rw [w2]; rfl
      have op : sf_isO (D (6 * k)) = true := by unfold sf_isO; simp; omega
      have Ek : sf_E D (k + 1) = k :: sf_E D k := by rw [sf_E, if_pos op]
      obtain ⟨cl, f1, f2, f3, f4, f5, f6⟩ := hV.2.2.2.2.2.1 k hk op
      have Ec := hV.after f4 f5
      have cc1 : sf_c D (cl + 1) = sf_c D cl := by rw [sf_c, if_pos f4]; rfl
      refine ⟨by omega, fun _ => B340_77 _ _ _ ⟨by omega, by omega, ?_⟩, fun h => by omega⟩
      rw [q0]
      refine ⟨by omega, ⟨fun h => by omega, fun h => by omega, fun h => by omega, fun h => by omega, fun h => by omega, fun h => by omega, fun h => by omega, fun h => by omega, fun h => by omega, fun h => by omega, trivial⟩, fun _ => ⟨_, rfl, ?_⟩⟩
      refine B345_p121_77 _ _ _ _ _ _ ⟨by omega, fun _ => ⟨by omega, ?_⟩, fun h => by omega⟩
      rw [q0]
      refine ⟨by omega, fun _ => B344_77 _ _ _ _ ⟨by omega, ?_⟩, fun h => by omega⟩
      rw [q0]
      refine ⟨by omega, fun _ => ⟨by omega, by omega, fun _ => ⟨by omega, by omega, fun h => by omega, fun _ => ?_⟩, fun h => by omega⟩, fun h => by omega⟩
      refine sp343 hV hR hk hY w1 (fun a g' j => ⟨_, rfl, by omega, fun _ => ?_, fun h => by omega⟩) (fun a g' j => ⟨_, rfl, by omega, fun h => absurd rfl h, fun _ => ⟨by omega, ?_⟩⟩)
      · rw [if_pos a] at tX
        rw [k1c]
        exact next (k + 1) g' _ _ _ _ (by omega) tX tS (by rw [Ek, sf_hl, if_neg (by omega)]; exact j) y3 y4 y9 y14
      · rw [a, if_neg (by decide)] at tX
        have j2 := j.x (X' := iq_uz Y 0 3 (B (sf_c D k))) (fun i hi => sf_uzn _ hi _ _) (fun i hi => by
          have : ¬ i = 3 := by omega
          simp [iq_uz, this])
        have e4 := j.row hR (6 * k + 4) (by omega) (by omega)
        rw [← Int.add_assoc, f1] at e4
        rw [e4, show ((cl : Nat) : Int) + 1 = ((cl + 1 : Nat) : Int) by omega]
        exact next (cl + 1) g' _ _ _ _ (by omega) tX tS (by rw [Ec]; exact j2) (by rw [cc1, ← f6]; simp [iq_uz]) (by rw [← y4]; simp [iq_uz]) (by rw [← y9]; simp [iq_uz]) (by rw [← y14]; simp [iq_uz])
    · -- loop
      have tX : sf_tX n K T M B X S = sf_nX B Y (decide (((sf_c D k : Nat) : Int) + 1 < B (sf_c D k))) (sf_c D k) (M (sf_c D k)) := by rw [eX]; unfold sf_oX; rw [w2]; rfl
      have tS : sf_tS n K M B X S = S := by rw [eS]; unfold sf_oS; rw [w2]; rfl
      have op : sf_isO (D (6 * k)) = true := by rw [w1]; decide
      have Ek : sf_E D (k + 1) = k :: sf_E D k := by rw [sf_E, if_pos op]
      rw [Ek] at hlk
      simp only [List.length_cons] at hlk
      obtain ⟨cl, f1, f2, f3, f4, f5, f6⟩ := hV.2.2.2.2.2.1 k hk op
      have Ec := hV.after f4 f5
      have cc1 : sf_c D (cl + 1) = sf_c D cl := by rw [sf_c, if_pos f4]; rfl
      have cc2 := sf_c_le D (i := k + 1) (j := cl) (by omega)
      have e78 : ∀ v, (iq_uz (iq_uz g 77 44 (X 0 9 + 1)) 100 k v) 78 (92 + 6 * (k : Int)) = D (6 * k) := fun v => by rw [← q0]; simp [iq_uz]
      refine ⟨by omega, fun _ => B340_77 _ _ _ ⟨by omega, by omega, ?_⟩, fun h => by omega⟩
      rw [q0, w1]
      refine ⟨by omega, ⟨fun h => by omega, fun h => by omega, fun h => by omega, fun h => by omega, fun h => by omega, fun h => by omega, fun h => by omega, fun h => by omega, fun h => by omega, fun h => by omega, trivial⟩, fun _ => ⟨_, rfl, ?_⟩⟩
      refine B345_p121_77 _ _ _ _ _ _ ⟨by omega, fun _ => ⟨by omega, ?_⟩, fun h => by omega⟩
      rw [q0, q1, w1, ← w3]
      refine ⟨by omega, fun h => absurd rfl h, fun _ => ⟨by omega, by omega, B344_77 _ _ _ _ ⟨by omega, ?_⟩⟩⟩
      rw [e78, w1]
      refine ⟨by omega, fun _ => ⟨by omega, by omega, fun _ => ⟨by omega, by omega, fun _ => ?_, fun h => by omega⟩, fun h => by omega⟩, fun h => by omega⟩
      by_cases ne : ((sf_c D k : Nat) : Int) + 1 < B (sf_c D k)
      · have n17 : ¬ D (6 * (k + 1 : Nat)) = 17 := by
          intro h17'
          obtain ⟨o, z1, z2, z3, z4, z5, z6, z7⟩ := hV.close (k := k + 1) (by omega) h17'
          rw [Ek] at z1
          injection z1 with z1 _
          rw [← z1] at z5
          omega
        have j2 := hY.push16 (B := B) (k := k) (w := M (sf_c D k)) w1 (by omega) (by omega) stm n17
        have xz : ∀ i, ¬ i = 7 → (sf_nX B Y true (sf_c D k) (M (sf_c D k))) 0 i = Y 0 i := fun i y3 => by
          have d7 := hY.2.2.2.2.2.2.1
          unfold sf_nX
          rw [if_pos ⟨rfl, by omega⟩]
          simp [iq_uz, y3]
        rw [show decide (((sf_c D k : Nat) : Int) + 1 < B (sf_c D k)) = true by simp; omega] at tX
        rw [k1c]
        exact next (k + 1) _ _ _ _ _ (by omega) tX tS (by rw [Ek, sf_hl, if_pos (.inr w1)]; exact j2) (by rw [xz 3 (by decide)]; exact y3) (by rw [xz 4 (by decide)]; exact y4) (by rw [xz 9 (by decide)]; exact y9) (by rw [xz 14 (by decide)]; exact y14)
      · have ekc : cl = k + 1 := by
          rcases Nat.lt_or_ge (k + 1) cl with z | z
          · by_cases w : D (6 * (k + 1 : Nat)) = 17
            · obtain ⟨o, z1, z2, z3, z4, z5, z6, z7⟩ := hV.close (k := k + 1) (by omega) w
              rw [Ek] at z1
              injection z1 with z1 _
              rw [← z1, f1] at z7
              omega
            · have c3 := sf_c_le D (i := k + 2) (j := cl) (by omega)
              rw [sf_c, if_neg w] at c3
              omega
          · omega
        subst ekc
        rw [show decide (((sf_c D k : Nat) : Int) + 1 < B (sf_c D k)) = false by simp; omega] at tX
        have en : sf_nX B Y false (sf_c D k) (M (sf_c D k)) = iq_uz Y 0 3 (B (sf_c D k)) := by
          unfold sf_nX
          rw [if_neg (fun z => absurd z.1 (by decide))]
        rw [en] at tX
        have j2 := hY.x (X' := iq_uz Y 0 3 (B (sf_c D k))) (fun i hi => sf_uzn _ hi _ _) (fun i hi => by
          have : ¬ i = 3 := by omega
          simp [iq_uz, this])
        have j3 : sf_J D g0 (iq_uz (iq_uz g 77 44 (X 0 9 + 1)) 100 k (M (sf_c D k) - 1)) (sf_hl D (sf_E D k)) (iq_uz Y 0 3 (B (sf_c D k))) S := by
          obtain ⟨k1, z, a, c, lg, lo, dp, s⟩ := j2
          have eg : ∀ j, ¬ j = 100 → (iq_uz (iq_uz g 77 44 (X 0 9 + 1)) 100 k (M (sf_c D k) - 1)) j = (iq_uz g 77 44 (X 0 9 + 1)) j := fun j y => sf_uzn _ y _ _
          unfold sf_J
          rw [eg 77 (by decide), eg 101 (by decide), eg 104 (by decide), eg 103 (by decide)]
          refine ⟨k1.uz (by omega), ⟨z.1, sf_MSc z.2 (eg 78 (by decide))⟩, a, c, lg, lo, dp, s.congr (fun _ _ => ⟨rfl, rfl⟩) (fun x hx => ?_) (fun _ _ _ => rfl)⟩
          have := stm x hx
          have : ¬ (x : Int) = k := by omega
          simp [iq_uz, this]
        refine B342_77 _ _ _ ?_
        rw [k1c]
        refine sf_el hV hR hm f3 w1 f4 stm (fun g' c3 c4 j4 => ?_) (M (sf_c D k) - 1).toNat _ _ _ (by omega) (by rw [show (iq_uz (iq_uz g 77 44 (X 0 9 + 1)) 100 k (M (sf_c D k) - 1)) 100 k = M (sf_c D k) - 1 by simp [iq_uz]]; omega) j3
        exact nextp (k + 2) g' _ _ _ _ _ _ _ (by omega) tX tS (by rw [Ec]; exact j4) (by rw [cc1, ← f6]; simp [iq_uz]) (by rw [← y4]; simp [iq_uz]) (by rw [← y9]; simp [iq_uz]) (by rw [← y14]; simp [iq_uz])
    · -- leave
      have d7 := hY.2.2.2.2.2.2.1
      have tX : sf_tX n K T M B X S = sf_vX K B (sf_hl D (sf_E D k)).length Y := by
        rw [eX, show (sf_hl D (sf_E D k)).length = (Y 0 7).toNat by omega]; unfold sf_oX; rw [w2]; rfl
      have tS : sf_tS n K M B X S = S := by rw [eS]; unfold sf_oS; rw [w2]; rfl
      have lk := hV.2.2.2.2.2.2.1 k hk w1
      rw [← sf_fh_hl] at lk
      have q4 := hY.row hR (6 * k + 4) (by omega) (by omega)
      rw [← Int.add_assoc, lk] at q4
      refine ⟨by omega, fun _ => B340_77 _ _ _ ⟨by omega, by omega, ?_⟩, fun h => by omega⟩
      rw [q0, w1]
      refine ⟨by omega, ⟨fun h => by omega, fun h => by omega, fun h => by omega, fun h => by omega, fun h => by omega, fun h => by omega, fun h => by omega, fun h => by omega, fun _ => ⟨_, rfl, ?_⟩, fun h => by omega, trivial⟩, fun h => by omega⟩
      refine B345_p121_77 _ _ _ _ _ _ ⟨by omega, fun _ => ⟨by omega, ?_⟩, fun h => by omega⟩
      rw [q0, w1]
      refine ⟨by omega, fun _ => B344_77 _ _ _ _ ⟨by omega, ?_⟩, fun h => by omega⟩
      rw [q0, w1, q4]
      refine ⟨by omega, fun h => absurd rfl h, fun _ => ⟨by omega, ?_⟩⟩
      rcases sf_lv hV (K := K) (B := B) _ Y hY (hV.ok k1) with ⟨z1, z2, z3, z4⟩ | ⟨o, l', r', z1, z2, z3, z4, z5, z6⟩
      · rw [z1]
        refine ⟨by omega, fun h => absurd rfl h, fun _ => ⟨_, rfl, ?_⟩⟩
        have e10' : (iq_uz g 77 44 (X 0 9 + 1)) 78 10 = m := by rw [← e10]; simp [iq_uz]
        rw [e10']
        refine B345_p42_77 _ _ _ _ _ _ ?_
        rw [e10']
        refine ⟨by omega, fun _ => q _ _ S [] _ _ _ z2 ⟨by simp, fun o ho => by cases ho⟩ ?_, fun h => by omega⟩
        rw [show f = (f - 1) + 1 by omega, sf_lp1 S h4, tX, tS]
        exact sf_lp0 S (by rw [z3]; decide) _
      · have ho : o < k := stm o (by rw [z1]; simp)
        obtain ⟨l2, r2, u1, u2⟩ := sf_hl_suf D _ _ _ _ z1
        have u3 := sf_E_suf D k l2 o r2 u1
        obtain ⟨cl, f1, f2, f3, f4, f5, f6⟩ := hV.2.2.2.2.2.1 o (by omega) (by rw [z3]; decide)
        have qo := hY.row hR (6 * o + 4) (by omega) (by omega)
        rw [← Int.add_assoc, f1] at qo
        rw [z2, qo]
        refine ⟨by omega, fun _ => ⟨by omega, by omega, ?_⟩, fun h => by omega⟩
        exact next cl _ _ _ _ _ (by omega) tX tS (by rw [f5, sf_hl, if_pos (.inl z3), ← u3, ← u2]; exact z4) (by rw [z5, f6]) (by rw [z6 4 (by decide) (by decide)]; exact y4) (by rw [z6 9 (by decide) (by decide)]; exact y9) (by rw [z6 14 (by decide) (by decide)]; exact y14)
    · -- stop
      have tX : sf_tX n K T M B X S = iq_uz Y 0 4 1 := by rw [eX]; unfold sf_oX; rw [w2]; rfl
      have tS : sf_tS n K M B X S = S := by rw [eS]; unfold sf_oS; rw [w2]; rfl
      refine ⟨by omega, fun h => absurd w1 h, fun _ => q _ (iq_uz Y 0 4 1) S _ _ _ _ (hY.x (fun i hi => sf_uzn _ hi _ _) (fun i hi => ?_)) (hV.ok k1) ?_⟩
      · have : ¬ i = 4 := by omega
        simp [iq_uz, this]
      · rw [show f = (f - 1) + 1 by omega, sf_lp1 S h4, tX, tS]
        exact sf_lp0 S (by simp [iq_uz]) _
