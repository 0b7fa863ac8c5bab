/-! Studies as a text: rows that grow. -/
theorem sf_c_ag {D D' : Int → Int} {m : Nat} (a : ∀ i : Nat, i < m → D' (6 * i) = D (6 * i)) : ∀ i : Nat, i ≤ m → sf_c D' i = sf_c D i := by
  intro i
  induction i with
  | zero => intro _; rfl
  | succ i ih => intro h; rw [sf_c, sf_c, ih (by omega), a i (by omega)]
theorem sf_E_ag {D D' : Int → Int} {m : Nat} (a : ∀ i : Nat, i < m → D' (6 * i) = D (6 * i)) : ∀ i : Nat, i ≤ m → sf_E D' i = sf_E D i := by
  intro i
  induction i with
  | zero => intro _; rfl
  | succ i ih => intro h; rw [sf_E, sf_E, ih (by omega), a i (by omega)]
theorem sf_fh_ag {D D' : Int → Int} {l : List Nat} (a : ∀ o, o ∈ l → D' (6 * o) = D (6 * o)) : sf_fh D' l = sf_fh D l := by
  induction l with
  | nil => rfl
  | cons o r ih => rw [sf_fh, sf_fh, ih (fun x hx => a x (List.mem_cons_of_mem _ hx)), a o List.mem_cons_self]
theorem sf_rww_ag {D D' K T M K' T' M' : Int → Int} {i : Nat} (h : sf_rww D K T M i) (a0 : D' (6 * i) = D (6 * i)) (a1 : D' (6 * i + 1) = D (6 * i + 1)) (a2 : D' (6 * i + 2) = D (6 * i + 2)) (a5 : D' (6 * i + 5) = D (6 * i + 5)) (c : sf_c D' i = sf_c D i) (k : K' (sf_c D i) = K (sf_c D i)) (t : T' (sf_c D i) = T (sf_c D i)) (u : M' (sf_c D i) = M (sf_c D i)) : sf_rww D' K' T' M' i := by
  unfold sf_rww at h ⊢
  rw [c, a0, a1, a2, a5, k, t, u]
  exact h
theorem sf_c_st {D : Int → Int} {i j : Nat} (h : i < j) (d : ¬ D (6 * i) = 17) : sf_c D i < sf_c D j := by
  have := sf_c_le D (show i + 1 ≤ j by omega)
  rw [sf_c, if_neg d] at this
  omega
def sf_GJ (c : Int) (K T M B : Int → Int) (j : Int) : Prop := (0 ≤ K j ∧ K j ≤ 8) ∧ (K j = 5 → 0 ≤ T j ∧ T j ≤ 4) ∧ (0 ≤ M j ∧ M j ≤ 99) ∧ (0 ≤ B j ∧ B j ≤ c) ∧ (K j = 6 → 1 ≤ M j)
/-- rows told so far -/
def sf_PW (D : Int → Int) (m : Nat) (K T M B : Int → Int) : Prop :=
  sf_c D m ≤ 30 ∧ m + (sf_E D m).length ≤ 2 * sf_c D m ∧ (∀ i, i ≤ m → (sf_E D i).length ≤ 3) ∧
  (∀ i : Nat, i < m → D (6 * i) = 17 → ∃ o r, sf_E D i = o :: r ∧ D (6 * i + 4) = o) ∧
  (∀ i : Nat, i < m → sf_isO (D (6 * i)) = true → i ∈ sf_E D m ∨ ∃ c : Nat, D (6 * i + 4) = c ∧ i < c ∧ c < m ∧ D (6 * c) = 17 ∧ sf_E D c = i :: sf_E D i ∧ B (sf_c D i) = sf_c D c) ∧
  (∀ i : Nat, i < m → D (6 * i) = 13 → D (6 * i + 4) = sf_fh D (sf_E D i)) ∧
  (∀ i : Nat, i < m → ¬ D (6 * i) = 17 → sf_rww D K T M i) ∧
  (∀ j : Int, 0 ≤ j → j < sf_c D m → sf_GJ (sf_c D m) K T M B j)
theorem sf_PW.fin {D K T M B : Int → Int} {m : Nat} (h : sf_PW D m K T M B) (e : sf_E D m = []) : sf_PV D m (sf_c D m) K T M B ∧ sf_GP (sf_c D m) K T M B := by
  obtain ⟨h1, h2, h3, h4, h5, h6, h7, h8⟩ := h
  refine ⟨⟨by omega, rfl, e, h3, h4, fun i hi ho => ?_, h6, h7⟩, ⟨by omega, h8⟩⟩
  rcases h5 i hi ho with z | z
  · rw [e] at z; cases z
  · exact z
theorem sf_PW.add {D D' K T M B K' T' M' B' : Int → Int} {m : Nat} (h : sf_PW D m K T M B) (a : ∀ i : Nat, i < m → D' (6 * i) = D (6 * i) ∧ D' (6 * i + 1) = D (6 * i + 1) ∧ D' (6 * i + 2) = D (6 * i + 2) ∧ D' (6 * i + 4) = D (6 * i + 4) ∧ D' (6 * i + 5) = D (6 * i + 5)) (kc : ∀ j : Int, 0 ≤ j → j < sf_c D m → K' j = K j ∧ T' j = T j ∧ M' j = M j ∧ B' j = B j) (ne : ¬ D' (6 * m) = 17) (c30 : sf_c D m < 30) (o3 : sf_isO (D' (6 * m)) = true → (sf_E D m).length < 3) (rw' : sf_rww D' K' T' M' m) (l13 : D' (6 * m) = 13 → D' (6 * m + 4) = sf_fh D (sf_E D m)) (gj : sf_GJ (sf_c D m + 1) K' T' M' B' (sf_c D m)) : sf_PW D' (m + 1) K' T' M' B' := by
  obtain ⟨h1, h2, h3, h4, h5, h6, h7, h8⟩ := h
  have ac := sf_c_ag (D := D) (D' := D') (m := m) (fun i hi => (a i hi).1)
  have aE := sf_E_ag (D := D) (D' := D') (m := m) (fun i hi => (a i hi).1)
  have c' : sf_c D' (m + 1) = sf_c D m + 1 := by rw [sf_c, if_neg ne, ac m (by omega)]
  have E' : sf_E D' (m + 1) = if sf_isO (D' (6 * m)) = true then m :: sf_E D m else sf_E D m := by rw [sf_E, if_neg ne, aE m (by omega)]
  have L' : (sf_E D' (m + 1)).length ≤ 3 ∧ (sf_E D' (m + 1)).length ≤ (sf_E D m).length + 1 := by
    rw [E']
    have := h3 m (by omega)
    split
    · next o => have := o3 o; rw [List.length_cons]; omega
    · omega
  refine ⟨by omega, by omega, fun i hi => ?_, fun i hi d => ?_, fun i hi d => ?_, fun i hi d => ?_, fun i hi d => ?_, fun j j1 j2 => ?_⟩
  · by_cases e : i = m + 1
    · rw [e]; exact L'.1
    · rw [aE i (by omega)]; exact h3 i (by omega)
  · have im : i < m := by
      rcases Nat.lt_or_ge i m with z | z
      · exact z
      · rw [show i = m by omega] at d; exact absurd d ne
    rw [(a i im).1] at d
    obtain ⟨o, r, z1, z2⟩ := h4 i im d
    exact ⟨o, r, by rw [aE i (by omega)]; exact z1, by rw [(a i im).2.2.2.1]; exact z2⟩
  · rcases Nat.lt_or_ge i m with im | z
    · rw [(a i im).1] at d
      rcases h5 i im d with z | ⟨c, z1, z2, z3, z4, z5, z6⟩
      · left
        rw [E']
        split
        · exact List.mem_cons_of_mem _ z
        · exact z
      · right
        have d17 : ¬ D (6 * i) = 17 := fun e => by rw [e] at d; cases d
        have := sf_c_st im d17
        exact ⟨c, by rw [(a i im).2.2.2.1]; exact z1, z2, by omega, by rw [(a c z3).1]; exact z4, by rw [aE c (by omega), aE i (by omega)]; exact z5, by rw [ac i (by omega), ac c (by omega), (kc _ (by omega) (by omega)).2.2.2]; exact z6⟩
    · left
      have e : i = m := by omega
      subst e
      rw [E', if_pos d]
      exact List.mem_cons_self
  · rcases Nat.lt_or_ge i m with im | z
    · rw [(a i im).1] at d
      rw [(a i im).2.2.2.1, aE i (by omega), sf_fh_ag (fun o ho => (a o (by have := sf_E_lt D i o ho; omega)).1)]
      exact h6 i im d
    · have e : i = m := by omega
      subst e
      rw [aE i (by omega), sf_fh_ag (fun o ho => (a o (by have := sf_E_lt D i o ho; omega)).1)]
      exact l13 d
  · rcases Nat.lt_or_ge i m with im | z
    · rw [(a i im).1] at d
      have := sf_c_st im d
      have kk := kc (sf_c D i) (by omega) (by omega)
      exact sf_rww_ag (h7 i im d) (a i im).1 (a i im).2.1 (a i im).2.2.1 (a i im).2.2.2.2 (ac i (by omega)) kk.1 kk.2.1 kk.2.2.1
    · have e : i = m := by omega
      subst e
      exact rw'
  · rw [c'] at j2 ⊢
    by_cases e : j = sf_c D m
    · rw [e]; exact gj
    · have kk := kc j j1 (by omega)
      have z := h8 j j1 (by omega)
      unfold sf_GJ at z ⊢
      rw [kk.1, kk.2.1, kk.2.2.1, kk.2.2.2]
      obtain ⟨y1, y2, y3, y4, y5⟩ := z
      exact ⟨y1, y2, y3, by omega, y5⟩
theorem sf_PW.close {D D' K T M B B' : Int → Int} {m o : Nat} {r : List Nat} (h : sf_PW D m K T M B) (eo : sf_E D m = o :: r) (a : ∀ i : Nat, i < m → D' (6 * i) = D (6 * i) ∧ D' (6 * i + 1) = D (6 * i + 1) ∧ D' (6 * i + 2) = D (6 * i + 2) ∧ D' (6 * i + 5) = D (6 * i + 5)) (a4 : ∀ i : Nat, i < m → ¬ i = o → D' (6 * i + 4) = D (6 * i + 4)) (e17 : D' (6 * m) = 17) (em : D' (6 * m + 4) = o) (ec : D' (6 * o + 4) = m) (kc : ∀ j : Int, 0 ≤ j → j < sf_c D m → ¬ j = sf_c D o → B' j = B j) (bc : B' (sf_c D o) = sf_c D m) : sf_PW D' (m + 1) K T M B' := by
  obtain ⟨h1, h2, h3, h4, h5, h6, h7, h8⟩ := h
  have ac := sf_c_ag (D := D) (D' := D') (m := m) (fun i hi => (a i hi).1)
  have aE := sf_E_ag (D := D) (D' := D') (m := m) (fun i hi => (a i hi).1)
  have c' : sf_c D' (m + 1) = sf_c D m := by rw [sf_c, if_pos e17, ac m (by omega)]; rfl
  have E' : sf_E D' (m + 1) = r := by rw [sf_E, e17, if_neg (by rw [sf_isO17]; decide), if_pos rfl, aE m (by omega), eo]; rfl
  have er : r = sf_E D o := sf_E_suf D m [] o r eo
  have om : o ∈ sf_E D m := by rw [eo]; exact List.mem_cons_self
  have ol := sf_E_lt D m o om
  have oo := sf_E_op D m o om
  have o17 : ¬ D (6 * o) = 17 := fun e => by rw [e] at oo; cases oo
  have o13 : ¬ D (6 * o) = 13 := fun e => by rw [e] at oo; cases oo
  have lr : r.length + 1 = (sf_E D m).length := by rw [eo]; rfl
  have h3m := h3 m (by omega)
  refine ⟨by omega, by rw [E']; omega, fun i hi => ?_, fun i hi d => ?_, fun i hi d => ?_, fun i hi d => ?_, fun i hi d => ?_, fun j j1 j2 => ?_⟩
  · by_cases e : i = m + 1
    · rw [e, E']; omega
    · rw [aE i (by omega)]; exact h3 i (by omega)
  · rcases Nat.lt_or_ge i m with im | z
    · rw [(a i im).1] at d
      have io : ¬ i = o := fun e => by rw [e] at d; exact o17 d
      obtain ⟨o', r', z1, z2⟩ := h4 i im d
      exact ⟨o', r', by rw [aE i (by omega)]; exact z1, by rw [a4 i im io]; exact z2⟩
    · have e : i = m := by omega
      subst e
      exact ⟨o, r, by rw [aE i (by omega)]; exact eo, em⟩
  · rcases Nat.lt_or_ge i m with im | z
    · rw [(a i im).1] at d
      by_cases io : i = o
      · right
        subst io
        exact ⟨m, ec, ol, by omega, e17, by rw [aE m (by omega), aE i (by omega), eo, er], by rw [ac i (by omega), ac m (by omega)]; exact bc⟩
      · rcases h5 i im d with z | ⟨c, z1, z2, z3, z4, z5, z6⟩
        · left
          rw [E']
          rw [eo] at z
          rcases List.mem_cons.mp z with z | z
          · exact absurd z io
          · exact z
        · right
          have d17 : ¬ D (6 * i) = 17 := fun e => by rw [e] at d; cases d
          have ci := sf_c_st im d17
          have nc : ¬ sf_c D i = sf_c D o := by
            rcases Nat.lt_or_ge i o with y | y
            · have := sf_c_st y d17; omega
            · have := sf_c_st (D := D) (i := o) (j := i) (by omega) o17; omega
          exact ⟨c, by rw [a4 i im io]; exact z1, z2, by omega, by rw [(a c z3).1]; exact z4, by rw [aE c (by omega), aE i (by omega)]; exact z5, by rw [ac i (by omega), ac c (by omega), kc _ (by omega) (by omega) (by omega)]; exact z6⟩
    · have e : i = m := by omega
      subst e
      rw [e17] at d; cases d
  · rcases Nat.lt_or_ge i m with im | z
    · rw [(a i im).1] at d
      have io : ¬ i = o := fun e => by rw [e] at d; exact o13 d
      rw [a4 i im io, aE i (by omega), sf_fh_ag (fun o ho => (a o (by have := sf_E_lt D i o ho; omega)).1)]
      exact h6 i im d
    · have e : i = m := by omega
      subst e
      rw [e17] at d; exact absurd d (by decide)
  · rcases Nat.lt_or_ge i m with im | z
    · rw [(a i im).1] at d
      exact sf_rww_ag (h7 i im d) (a i im).1 (a i im).2.1 (a i im).2.2.1 (a i im).2.2.2 (ac i (by omega)) rfl rfl rfl
    · have e : i = m := by omega
      subst e
      exact absurd e17 d
  · rw [c'] at j2 ⊢
    have z := h8 j j1 j2
    unfold sf_GJ at z ⊢
    obtain ⟨y1, y2, y3, y4, y5⟩ := z
    refine ⟨y1, y2, y3, ?_, y5⟩
    by_cases e : j = sf_c D o
    · rw [e, bc]; omega
    · rw [kc j j1 j2 e]; exact y4
