/-! Studies as the model holds them: rows of six, ends among them. -/
theorem sp192m {N : Nat} {xs : Nat → Int32} {Q : iq_T} {g : iq_I} {l : iq_J} {P : Int → Int} {gen root : Int} (hpb : iq_pb P) (hM : ∀ k, 0 ≤ k → k < 9 → g 78 k = P k) (hg : 0 ≤ gen ∧ gen < 60) (hr : 0 ≤ root ∧ root < P 1) (q : ∀ g' : iq_I, (∀ j, ¬ j = 89 → g' j = g j) → (∀ t, 0 ≤ t → t < 60 → g' 89 t = if sf_D P gen root t = true then 1 else 0) → Q none g' l) : iq_P N xs 192 0 [some (iq_r 77), some (iq_i gen), some (iq_i root), none, none] [] g l Q := by
  have hp := iq_pb_congr hM hpb
  have e1 := hM 1 (by omega) (by omega)
  have e3 := hM 3 (by omega) (by omega)
  have e4 := hM 4 (by omega) (by omega)
  have hp3 := hpb.2.2.2.1
  refine B192_77 _ _ _ _ (lc1 (g0 := g) (fun g1 a1 b1 => ?_) 60 0 g (by omega) (by omega) (fun _ _ => rfl) (fun t a b => by omega))
  have h78 : g1 78 = g 78 := a1 78 (by decide)
  have hk : ∀ k, ¬ k = 5 → (iq_uz g1 78 5 root) 78 k = g 78 k := fun k h => by rw [← h78]; simp [iq_uz, h]
  have h5 : (iq_uz g1 78 5 root) 78 5 = root := by simp [iq_uz]
  have hp' : iq_pb ((iq_uz g1 78 5 root) 78) := by
    unfold iq_pb at hp ⊢
    rw [hk 0 (by omega), hk 1 (by omega), hk 2 (by omega), hk 3 (by omega), hk 4 (by omega), hk 6 (by omega), hk 7 (by omega), hk 8 (by omega), h5]
    obtain ⟨p0, p1, p2, p3, p4, p5, p6, p7, p8⟩ := hp
    exact ⟨p0, p1, p2, p3, p4, by omega, p6, p7, p8⟩
  refine lc2 (g0 := iq_uz g1 78 5 root) hp' h5 hg (fun g2 a2 b2 => ?_) (g 78 3).toNat 0 _ (by rw [hk 3 (by omega)]; omega) (fun _ _ => rfl) (fun t a b => ?_)
  · rw [hk 1 (by omega), hk 3 (by omega), hk 4 (by omega), e1, e3, e4] at b2
    refine q _ (fun j a => ?_) (fun t a b => ?_)
    · funext i
      by_cases c : j = 78
      · subst c
        by_cases d : i = 5
        · subst d; simp [iq_uz]
        · have : g2 78 i = g 78 i := by rw [a2 78 (by decide)]; exact hk i d
          simp [iq_uz, d, this]
      · have : g2 j i = g j i := by rw [a2 j a, ← a1 j a]; simp [iq_uz, c]
        simp [iq_uz, c, this]
    · rw [show (iq_uz g2 78 5 (g 78 5)) 89 t = g2 89 t by simp [iq_uz]]
      exact b2 t a b
  · rw [show (iq_uz g1 78 5 root) 89 t = g1 89 t by simp [iq_uz], b1 t a b]
    simp [iq_dg]
theorem sp194m {N : Nat} {xs : Nat → Int32} {Q : iq_T} {g : iq_I} {l : iq_J} {P : Int → Int} {S : Int64} {m : Int} {R : Int → Int} (hv : iq_ZV P S m R) (hM : iq_MS g 0 P S m R) (q : ∀ g' : iq_I, (∀ j, ¬ j = 89 → g' j = g j) → Q (some (iq_i (aFit P S))) g' l) : iq_P N xs 194 0 [some (iq_r 77)] [] g l Q := by
  have hp := hv.1
  obtain ⟨p0, p1, p2, p3, p4, p5, p6, p7, p8⟩ := hp
  refine B194_77 _ _ ?_
  rw [hM.p 2 (by omega) (by omega), hM.p 5 (by omega) (by omega)]
  refine sp192m hv.1 hM.p (by omega) p5 (fun g' a b => ⟨rfl, sp193 hv.1 b (fun t x y => ?_) ⟨_, rfl, q g' a⟩⟩)
  rw [a 78 (by decide)]
  exact hM.s t x y
/-! rows -/
def sf_isO (a : Int) : Bool := decide (a = 12) || decide (a = 16) || decide (1500 ≤ a)
def sf_c (D : Int → Int) : Nat → Nat
  | 0 => 0
  | i + 1 => sf_c D i + (if D (6 * i) = 17 then 0 else 1)
def sf_E (D : Int → Int) : Nat → List Nat
  | 0 => []
  | i + 1 => if sf_isO (D (6 * i)) = true then i :: sf_E D i else if D (6 * i) = 17 then (sf_E D i).tail else sf_E D i
def sf_fh (D : Int → Int) : List Nat → Int
  | [] => -1
  | o :: r => if D (6 * o) = 12 then o else sf_fh D r
def sf_hl (D : Int → Int) : List Nat → List Nat
  | [] => []
  | o :: r => if D (6 * o) = 12 ∨ D (6 * o) = 16 then o :: sf_hl D r else sf_hl D r
def sf_rww (D K T M : Int → Int) (i : Nat) : Prop :=
  (D (6 * i) = 10 ∧ K (sf_c D i) = 0 ∧ M (sf_c D i) = D (6 * i + 1) ∧ (0 ≤ M (sf_c D i) ∧ M (sf_c D i) ≤ 59)) ∨
  (D (6 * i) = 11 ∧ K (sf_c D i) = 1 ∧ M (sf_c D i) = D (6 * i + 1) ∧ (0 ≤ M (sf_c D i) ∧ M (sf_c D i) ≤ 59)) ∨
  (D (6 * i) = 5 ∧ K (sf_c D i) = 2 ∧ M (sf_c D i) = D (6 * i + 1) ∧ (0 ≤ M (sf_c D i) ∧ M (sf_c D i) ≤ 59)) ∨
  (D (6 * i) = 14 ∧ K (sf_c D i) = 3) ∨
  (D (6 * i) = 12 ∧ K (sf_c D i) = 4 ∧ M (sf_c D i) = D (6 * i + 1) ∧ (0 ≤ M (sf_c D i) ∧ M (sf_c D i) ≤ 59)) ∨
  (D (6 * i) = 1509 ∧ K (sf_c D i) = 5 ∧ T (sf_c D i) = 0 ∧ M (sf_c D i) = D (6 * i + 1) ∧ (0 ≤ M (sf_c D i) ∧ M (sf_c D i) ≤ 59)) ∨
  (D (6 * i) = 1519 ∧ K (sf_c D i) = 5 ∧ T (sf_c D i) = 1 ∧ M (sf_c D i) = D (6 * i + 1) ∧ (0 ≤ M (sf_c D i) ∧ M (sf_c D i) ≤ 59)) ∨
  (D (6 * i) = 1520 ∧ K (sf_c D i) = 5 ∧ ((D (6 * i + 5) = 60 ∧ T (sf_c D i) = 2) ∨ (D (6 * i + 5) = 62 ∧ T (sf_c D i) = 3) ∨ (D (6 * i + 5) = 61 ∧ T (sf_c D i) = 4)) ∧ M (sf_c D i) = D (6 * i + 2) ∧ (0 ≤ M (sf_c D i) ∧ M (sf_c D i) ≤ 60)) ∨
  (D (6 * i) = 16 ∧ K (sf_c D i) = 6 ∧ M (sf_c D i) = D (6 * i + 1) ∧ (1 ≤ M (sf_c D i) ∧ M (sf_c D i) ≤ 99)) ∨
  (D (6 * i) = 13 ∧ K (sf_c D i) = 7) ∨
  (D (6 * i) = 18 ∧ K (sf_c D i) = 8)
/-- the rows and what the class holds tell the same STUDIES -/
def sf_PV (D : Int → Int) (m : Nat) (n : Int) (K T M B : Int → Int) : Prop :=
  m ≤ 60 ∧ (sf_c D m : Int) = n ∧ sf_E D m = [] ∧ (∀ i, i ≤ m → (sf_E D i).length ≤ 3) ∧
  (∀ i, i < m → D (6 * i) = 17 → ∃ o r, sf_E D i = o :: r ∧ D (6 * i + 4) = o) ∧
  (∀ i, i < m → sf_isO (D (6 * i)) = true → ∃ c : Nat, D (6 * i + 4) = c ∧ i < c ∧ c < m ∧ D (6 * c) = 17 ∧ sf_E D c = i :: sf_E D i ∧ B (sf_c D i) = sf_c D c) ∧
  (∀ i, i < m → D (6 * i) = 13 → D (6 * i + 4) = sf_fh D (sf_E D i)) ∧
  (∀ i, i < m → ¬ D (6 * i) = 17 → sf_rww D K T M i)
theorem sf_c_le (D : Int → Int) {i j : Nat} (h : i ≤ j) : sf_c D i ≤ sf_c D j := by
  induction j with
  | zero => rw [show i = 0 by omega]; exact Nat.le_refl _
  | succ j ih =>
    by_cases e : i = j + 1
    · rw [e]; exact Nat.le_refl _
    · have := ih (by omega)
      rw [sf_c]
      omega
theorem sf_E_lt (D : Int → Int) (i : Nat) : ∀ o, o ∈ sf_E D i → o < i := by
  induction i with
  | zero => intro o h; cases h
  | succ i ih =>
    intro o h
    rw [sf_E] at h
    split at h
    · rcases List.mem_cons.mp h with h | h
      · omega
      · have := ih o h; omega
    · split at h
      · have := ih o (List.mem_of_mem_tail h); omega
      · have := ih o h; omega
theorem sf_E_op (D : Int → Int) (i : Nat) : ∀ o, o ∈ sf_E D i → sf_isO (D (6 * o)) = true := by
  induction i with
  | zero => intro o h; cases h
  | succ i ih =>
    intro o h
    rw [sf_E] at h
    split at h
    · next c =>
      rcases List.mem_cons.mp h with h | h
      · rw [h]; exact c
      · exact ih o h
    · split at h
      · exact ih o (List.mem_of_mem_tail h)
      · exact ih o h
theorem sf_E_suf (D : Int → Int) (i : Nat) : ∀ (l : List Nat) (o : Nat) (r : List Nat), sf_E D i = l ++ o :: r → r = sf_E D o := by
  induction i with
  | zero =>
    intro l o r h
    rw [sf_E] at h
    cases l <;> cases h
  | succ i ih =>
    intro l o r h
    rw [sf_E] at h
    split at h
    · cases l with
      | nil =>
        injection h with h1 h2
        rw [← h1, ← h2]
      | cons x l =>
        injection h with h1 h2
        exact ih l o r h2
    · split at h
      · rcases hE : sf_E D i with _ | ⟨x, t⟩
        · rw [hE] at h; cases l <;> cases h
        · rw [hE] at h
          exact ih (x :: l) o r (by rw [hE]; simp only [List.tail_cons] at h; rw [h]; rfl)
      · exact ih l o r h
/-- what is closed isn't open behind its end -/
theorem sf_E_out (D : Int → Int) {o c : Nat} (h1 : sf_E D (c + 1) = sf_E D o) (h2 : o < c) (d : Nat) : ¬ o ∈ sf_E D (c + 1 + d) := by
  induction d with
  | zero =>
    rw [Nat.add_zero, h1]
    intro h
    have := sf_E_lt D o o h
    omega
  | succ d ih =>
    intro h
    rw [show c + 1 + (d + 1) = (c + 1 + d) + 1 by omega, sf_E] at h
    split at h
    · rcases List.mem_cons.mp h with h | h
      · omega
      · exact ih h
    · split at h
      · exact ih (List.mem_of_mem_tail h)
      · exact ih h
theorem sf_isO17 : sf_isO 17 = false := by decide
theorem sf_PV.after {D : Int → Int} {m : Nat} {n : Int} {K T M B : Int → Int} (h : sf_PV D m n K T M B) {i c : Nat} (hc : D (6 * c) = 17) (he : sf_E D c = i :: sf_E D i) : sf_E D (c + 1) = sf_E D i := by
  rw [sf_E, if_neg (by rw [hc]; decide), if_pos hc, he]
  rfl
/-- what is open at a STEP ends behind it -/
theorem sf_PV.ahead {D : Int → Int} {m : Nat} {n : Int} {K T M B : Int → Int} (h : sf_PV D m n K T M B) {k o : Nat} (hk : k < m) (hn : ¬ D (6 * k) = 17) (ho : o ∈ sf_E D k) : (sf_c D k : Int) < B (sf_c D o) := by
  have o1 := sf_E_lt D k o ho
  obtain ⟨c, e1, e2, e3, e4, e5, e6⟩ := h.2.2.2.2.2.1 o (by omega) (sf_E_op D k o ho)
  have kc : k < c := by
    by_cases z : k < c
    · exact z
    · by_cases w : k = c
      · rw [w] at hn; exact absurd e4 hn
      · have := sf_E_out D (h.after e4 e5) e2 (k - c - 1)
        rw [show c + 1 + (k - c - 1) = k by omega] at this
        exact absurd ho this
  rw [e6]
  have z := sf_c_le D (i := k + 1) (j := c) (by omega)
  rw [sf_c, if_neg hn] at z
  omega
theorem sf_hl_mem (D : Int → Int) : ∀ (l : List Nat) (o : Nat), o ∈ sf_hl D l → o ∈ l ∧ (D (6 * o) = 12 ∨ D (6 * o) = 16) := by
  intro l
  induction l with
  | nil => intro o h; cases h
  | cons x l ih =>
    intro o h
    rw [sf_hl] at h
    split at h
    · next c =>
      rcases List.mem_cons.mp h with h | h
      · rw [h]; exact ⟨List.mem_cons_self, c⟩
      · exact ⟨List.mem_cons_of_mem _ (ih o h).1, (ih o h).2⟩
    · exact ⟨List.mem_cons_of_mem _ (ih o h).1, (ih o h).2⟩
theorem sf_hl_len (D : Int → Int) : ∀ (l : List Nat), (sf_hl D l).length ≤ l.length := by
  intro l
  induction l with
  | nil => exact Nat.le_refl _
  | cons x l ih =>
    rw [sf_hl]
    split
    · simp only [List.length_cons]; omega
    · simp only [List.length_cons]; omega
/-- what is open, as the class keeps it and as the model does -/
def sf_ST (D : Int → Int) : List Nat → (Int → Int) → (Int → Int) → (Int → Int) → (Int → Int) → Int → Prop
  | [], _, _, _, _, h => h = 0
  | o :: r, O, U, A, H, h => O r.length = sf_c D o ∧ ((D (6 * o) = 16 ∧ U r.length = A o + 1 ∧ (0 ≤ A o ∧ ¬ D (6 * (o + 1 : Nat)) = 17) ∧ sf_ST D r O U A H h) ∨ (D (6 * o) = 12 ∧ H (h - 1) = D (6 * o + 1) ∧ sf_ST D r O U A H (h - 1)))
theorem sf_ST.rng {D O U A H : Int → Int} : ∀ {st : List Nat} {h : Int}, sf_ST D st O U A H h → 0 ≤ h ∧ h ≤ st.length := by
  intro st
  induction st with
  | nil => intro h z; rw [sf_ST] at z; simp only [List.length_nil]; omega
  | cons o r ih =>
    intro h z
    rw [sf_ST] at z
    simp only [List.length_cons]
    rcases z.2 with z | z
    · have := ih z.2.2.2; omega
    · have := ih z.2.2; omega
theorem sf_ST.congr {D O U A H O' U' A' H' : Int → Int} : ∀ {st : List Nat} {h : Int}, sf_ST D st O U A H h → (∀ i : Nat, i < st.length → O' i = O i ∧ U' i = U i) → (∀ o, o ∈ st → A' o = A o) → (∀ i, 0 ≤ i → i < h → H' i = H i) → sf_ST D st O' U' A' H' h := by
  intro st
  induction st with
  | nil => intro h z _ _ _; exact z
  | cons o r ih =>
    intro h z e1 e2 e3
    have zz := sf_ST.rng z
    rw [sf_ST] at z ⊢
    have eo := e1 r.length (by simp only [List.length_cons]; omega)
    have ea := e2 o List.mem_cons_self
    have f1 : ∀ i : Nat, i < r.length → O' i = O i ∧ U' i = U i := fun i hi => e1 i (by simp only [List.length_cons]; omega)
    have f2 : ∀ x, x ∈ r → A' x = A x := fun x hx => e2 x (List.mem_cons_of_mem _ hx)
    refine ⟨by rw [eo.1]; exact z.1, ?_⟩
    rcases z.2 with z | z
    · exact .inl ⟨z.1, by rw [eo.2, ea]; exact z.2.1, by rw [ea]; exact z.2.2.1, ih z.2.2.2 f1 f2 e3⟩
    · have := sf_ST.rng z.2.2
      exact .inr ⟨z.1, by rw [e3 (h - 1) (by omega) (by omega)]; exact z.2.1, ih z.2.2 f1 f2 (fun i a b => e3 i a (by omega))⟩
