/-! studies in the class. -/
def sf_tst (A : Int → Int) (n : Int) : Int × Int × (Int → Int) × Nat := sf_stu A n 901 0 (fun _ => 0) 0
def iq_Mw : Nat → Int → Bool := fun j k => (decide (26 ≤ j) && decide (j ≤ 30)) || (decide (j = 10) && (decide (k = 1) || decide (k = 7) || decide (k = 8)))
theorem sf_PW0 (D K T M B : Int → Int) : sf_PW D 0 K T M B := by
  refine ⟨by simp [sf_c], by simp [sf_E, sf_c], fun i hi => by rw [show i = 0 by omega]; simp [sf_E], fun i hi => by omega, fun i hi => by omega, fun i hi => by omega, fun i hi => by omega, fun j y1 y2 => ?_⟩
  have : ((sf_c D 0 : Nat) : Int) = 0 := rfl
  omega
theorem sp126 {N : Nat} {xs : Nat → Int32} {Q : iq_T} {g : iq_I} {l : iq_J} {a : Int} (ha : 0 ≤ a ∧ a ≤ 300) (q1 : (sf_tst (sf_byt g) a).1 = 0 → ∀ g' : iq_I, sf_SS (iq_uz g 10 2 a) g' (sf_tst (sf_byt g) a).2.2.1 (sf_tst (sf_byt g) a).2.2.2 → sf_E (sf_tst (sf_byt g) a).2.2.1 (sf_tst (sf_byt g) a).2.2.2 = [] → Q (some (iq_i 1)) g' l) (q0 : ¬ (sf_tst (sf_byt g) a).1 = 0 → ∀ g' : iq_I, sf_SK (iq_uz g 10 2 a) g' → g' 10 7 = (sf_tst (sf_byt g) a).1 → g' 10 8 = (sf_tst (sf_byt g) a).2.1 → Q (some (iq_i 0)) g' l) : iq_P N xs 126 0 [some (iq_r 16), some (iq_i a), none, none] [] g l Q := by
  refine B126_16 _ _ _ (B55_10 _ _ _ ⟨rfl, ?_⟩)
  refine sp126_p (g0 := iq_uz g 10 2 a) (A := sf_byt g) (n := a) ha.2 901 _ 0 0 (fun _ => 0) 0 none ⟨⟨fun j y1 y2 => ?_, fun k y => ?_⟩, ⟨by simp [iq_uz, sf_c], by simp [iq_uz], by simp [iq_uz, sf_E]⟩, trivial, sf_PW0 _ _ _ _ _, by simp [iq_uz], by simp [iq_uz]⟩ ⟨by simp [iq_uz], by omega, fun k y1 y2 => ?_⟩ (by simp [iq_uz]) (by omega) (by omega) (by omega) q1 q0
  · rw [sf_uzn _ (by omega), sf_uzn _ (by omega), sf_uzn _ (by omega), sf_uzn _ y1, sf_uzn _ y1, sf_uzn _ y1, sf_uzn _ y1]
  · have k3 : ¬ k = 3 := by omega
    have k7 : ¬ k = 7 := by omega
    have k8 : ¬ k = 8 := by omega
    rw [sf_uzn _ (by decide), sf_uzn _ (by decide), sf_uzn _ (by decide)]
    simp [iq_uz, k3, k7, k8]
  · rw [sf_uzn _ (by decide), sf_uzn _ (by decide), sf_uzn _ (by decide), sf_uzn _ (by decide), sf_uzn _ (by decide), sf_uzn _ (by decide), sf_uzn _ (by decide)]
    rfl
theorem sf_SK.km {g g' : iq_I} {l : iq_J} {a : Int} (h : sf_SK (iq_uz g 10 2 a) g') : iq_KM iq_Mw g l g' l := by
  refine .ofg (fun j k x y => ?_)
  by_cases c : j = 10
  · subst c
    have k2 : ¬ k = 2 := fun e => by subst e; simp [iq_sx] at x
    have kk : ¬ (3 ≤ k ∧ k ≤ 8) := fun e => by
      have : k = 3 ∨ k = 4 ∨ k = 5 ∨ k = 6 ∨ k = 7 ∨ k = 8 := by omega
      rcases this with e | e | e | e | e | e <;> subst e <;> simp [iq_sx, iq_Mw] at x y
    rw [h.2 k kk]
    simp [iq_uz, k2]
  · have n16 : ¬ (16 ≤ j ∧ j ≤ 22) := fun e => by
      have : j = 16 ∨ j = 17 ∨ j = 18 ∨ j = 19 ∨ j = 20 ∨ j = 21 ∨ j = 22 := by omega
      rcases this with e | e | e | e | e | e | e <;> subst e <;> simp [iq_sx] at x
    rw [h.1 j c n16, sf_uzn _ c]
theorem sf_PV.kc {D K T M B K' T' M' B' : Int → Int} {m : Nat} {n : Int} (h : sf_PV D m n K T M B) (k : ∀ j : Int, 0 ≤ j → j < n → K' j = K j ∧ T' j = T j ∧ M' j = M j ∧ B' j = B j) : sf_PV D m n K' T' M' B' := by
  obtain ⟨h1, h2, h3, h4, h5, h6, h7, h8⟩ := h
  refine ⟨h1, h2, h3, h4, h5, fun i hi ho => ?_, h7, fun i hi d => ?_⟩
  · obtain ⟨c, z1, z2, z3, z4, z5, z6⟩ := h6 i hi ho
    have d17 : ¬ D (6 * i) = 17 := fun e => by rw [e] at ho; cases ho
    have := sf_c_st hi d17
    exact ⟨c, z1, z2, z3, z4, z5, by rw [(k _ (by omega) (by omega)).2.2.2]; exact z6⟩
  · have := sf_c_st hi d
    have kk := k (sf_c D i) (by omega) (by omega)
    exact sf_rww_ag (h8 i hi d) rfl rfl rfl rfl rfl kk.1 kk.2.1 kk.2.2.1
theorem sf_GP.kc {K T M B K' T' M' B' : Int → Int} {n : Int} (h : sf_GP n K T M B) (k : ∀ j : Int, 0 ≤ j → j < n → K' j = K j ∧ T' j = T j ∧ M' j = M j ∧ B' j = B j) : sf_GP n K' T' M' B' := by
  refine ⟨h.1, fun i y1 y2 => ?_⟩
  have kk := k i y1 y2
  rw [kk.1, kk.2.1, kk.2.2.1, kk.2.2.2]
  exact h.2 i y1 y2
theorem sf_PV.dc {D D' K T M B : Int → Int} {m : Nat} {n : Int} (h : sf_PV D m n K T M B) (d : ∀ i : Int, 0 ≤ i → i < 6 * m → D' i = D i) : sf_PV D' m n K T M B := by
  obtain ⟨h1, h2, h3, h4, h5, h6, h7, h8⟩ := h
  have a0 : ∀ i : Nat, i < m → D' (6 * i) = D (6 * i) := fun i hi => d _ (by omega) (by omega)
  have ac := sf_c_ag a0
  have aE := sf_E_ag a0
  refine ⟨h1, by rw [ac m (by omega)]; exact h2, by rw [aE m (by omega)]; exact h3, fun i hi => by rw [aE i hi]; exact h4 i hi, fun i hi z => ?_, fun i hi z => ?_, fun i hi z => ?_, fun i hi z => ?_⟩
  · rw [a0 i hi] at z
    obtain ⟨o, r, y1, y2⟩ := h5 i hi z
    exact ⟨o, r, by rw [aE i (by omega)]; exact y1, by rw [d _ (by omega) (by omega)]; exact y2⟩
  · rw [a0 i hi] at z
    obtain ⟨c, z1, z2, z3, z4, z5, z6⟩ := h6 i hi z
    exact ⟨c, by rw [d _ (by omega) (by omega)]; exact z1, z2, z3, by rw [a0 c z3]; exact z4, by rw [aE c (by omega), aE i (by omega)]; exact z5, by rw [ac i (by omega), ac c (by omega)]; exact z6⟩
  · rw [a0 i hi] at z
    rw [d _ (by omega) (by omega), aE i (by omega), sf_fh_ag (fun o ho => a0 o (by have := sf_E_lt D i o ho; omega))]
    exact h7 i hi z
  · rw [a0 i hi] at z
    exact sf_rww_ag (h8 i hi z) (a0 i hi) (d _ (by omega) (by omega)) (d _ (by omega) (by omega)) (d _ (by omega) (by omega)) (ac i (by omega)) rfl rfl rfl
theorem sf_ans {Q : iq_T} {x y : Int} {g : iq_I} {l : iq_J} (h : x = y) (q : Q (some (iq_i y)) g l) : Q (some (iq_i x)) g l := by rw [h]; exact q
theorem cStudies {N : Nat} {xs : Nat → Int32} {Q : iq_T} {g : iq_I} {l : iq_J} {a : Int} (hf : 0 ≤ g 10 1 ∧ g 10 1 ≤ 900) (ha : -2147483648 ≤ a ∧ a ≤ 2147483647) (q1 : 0 ≤ a ∧ a ≤ g 10 1 ∧ a ≤ 300 → (sf_tst (sf_byt g) a).1 = 0 → ∀ g' : iq_I, iq_KM iq_Mw g l g' l → sf_PG g' (sf_c (sf_tst (sf_byt g) a).2.2.1 (sf_tst (sf_byt g) a).2.2.2) (g' 27) (g' 28) (g' 29) (g' 30) → sf_PV (sf_tst (sf_byt g) a).2.2.1 (sf_tst (sf_byt g) a).2.2.2 (sf_c (sf_tst (sf_byt g) a).2.2.1 (sf_tst (sf_byt g) a).2.2.2) (g' 27) (g' 28) (g' 29) (g' 30) → sf_GP (sf_c (sf_tst (sf_byt g) a).2.2.1 (sf_tst (sf_byt g) a).2.2.2) (g' 27) (g' 28) (g' 29) (g' 30) → g' 26 5 = 1 → g' 10 1 = 0 → g' 10 7 = 0 → g' 10 8 = -1 → g' 0 0 = 0 → Q (some (iq_i (sf_c (sf_tst (sf_byt g) a).2.2.1 (sf_tst (sf_byt g) a).2.2.2))) g' l) (q2 : 0 ≤ a ∧ a ≤ g 10 1 ∧ a ≤ 300 → ¬ (sf_tst (sf_byt g) a).1 = 0 → ∀ g' : iq_I, iq_KM iq_Mw g l g' l → (∀ j, 26 ≤ j ∧ j ≤ 30 → g' j = g j) → g' 10 1 = 0 → g' 10 7 = (sf_tst (sf_byt g) a).1 → g' 10 8 = (sf_tst (sf_byt g) a).2.1 → g' 0 0 = 9 → Q (some (iq_i (-1))) g' l) (q0 : ¬ (0 ≤ a ∧ a ≤ g 10 1 ∧ a ≤ 300) → Q (some (iq_i (-1))) (iq_uz g 0 0 1) l) : iq_P N xs 128 0 [some (iq_r 0), some (iq_i a), none] [] g l Q := by
  refine B128_0 _ _ _ ⟨by omega, fun c => sp44 ⟨_, rfl, q0 (by omega)⟩, fun c1 => ⟨by omega, fun c => sp44 ⟨_, rfl, q0 (by omega)⟩, fun c2 => ⟨by omega, fun c3 => ?_, fun c => sp44 ⟨_, rfl, q0 (by omega)⟩⟩⟩⟩
  refine sp126 (by omega) (fun z G hs eE => ⟨_, rfl, by omega, fun _ => B127_26_17 _ _ ⟨by decide, by decide, by decide, by decide, B127_p68_26_17 _ _ ⟨?_, rfl, sp90 ⟨_, rfl, ?_⟩⟩⟩, fun x => by omega⟩) (fun z G hk f7 f8 => ⟨_, rfl, by omega, fun x => absurd rfl x, fun _ => sp44 ⟨_, rfl, ?_⟩⟩)
  · right
    rw [← hs.2.1.2.1]
    simp [iq_uz, iq_rz]
  · obtain ⟨pv, gp⟩ := hs.2.2.2.1.fin eE
    have kc : ∀ (f h : Int → Int) (j : Int), 0 ≤ j → j < (sf_c (sf_tst (sf_byt g) a).2.2.1 (sf_tst (sf_byt g) a).2.2.2 : Int) → iq_cz f h 0 0 30 j = f j := fun f h j y1 y2 => by
      have := hs.2.2.2.1.1
      unfold iq_cz
      rw [if_pos (by omega), show 0 + (j - 0) = j by omega]
    refine sf_ans ?_ (q1 ⟨c1, c2, c3⟩ z _ ?_ ⟨?_, rfl, rfl, rfl, rfl⟩ (pv.kc (fun j y1 y2 => ⟨?_, ?_, ?_, ?_⟩)) (gp.kc (fun j y1 y2 => ⟨?_, ?_, ?_, ?_⟩)) ?_ ?_ ?_ ?_ ?_)
    · rw [← hs.2.1.1]; simp [iq_uz, iq_rz]
    · have km := sf_SK.km (l := l) hs.1
      refine .ofg (fun j k x y => ?_)
      rw [← (km.1 j k x y).1]
      have n0 : ¬ (j = 0 ∧ k = 0) := fun e => by obtain ⟨rfl, rfl⟩ := e; simp [iq_sx] at x
      have n10 : ¬ (j = 10 ∧ k = 1) := fun e => by obtain ⟨rfl, rfl⟩ := e; simp [iq_Mw] at y
      have n26 : ¬ j = 26 := fun e => by subst e; simp [iq_Mw] at y
      have n27 : ¬ j = 27 := fun e => by subst e; simp [iq_Mw] at y
      have n28 : ¬ j = 28 := fun e => by subst e; simp [iq_Mw] at y
      have n29 : ¬ j = 29 := fun e => by subst e; simp [iq_Mw] at y
      have n30 : ¬ j = 30 := fun e => by subst e; simp [iq_Mw] at y
      simp [iq_uz, iq_rz, n0, n10, n26, n27, n28, n29, n30]
    · rw [← hs.2.1.1]; simp [iq_uz, iq_rz]
    · rw [← kc (G 18) (G 27) j y1 y2]; simp [iq_uz, iq_rz]; rw [sf_uzn _ (by decide), sf_uzn _ (by decide)]
    · rw [← kc (G 19) (G 28) j y1 y2]; simp [iq_uz, iq_rz]; rw [sf_uzn _ (by decide), sf_uzn _ (by decide)]
    · rw [← kc (G 20) (G 29) j y1 y2]; simp [iq_uz, iq_rz]; rw [sf_uzn _ (by decide), sf_uzn _ (by decide)]
    · rw [← kc (G 21) (G 30) j y1 y2]; simp [iq_uz, iq_rz]; rw [sf_uzn _ (by decide), sf_uzn _ (by decide)]
    · rw [← kc (G 18) (G 27) j y1 y2]; simp [iq_uz, iq_rz]; rw [sf_uzn _ (by decide), sf_uzn _ (by decide)]
    · rw [← kc (G 19) (G 28) j y1 y2]; simp [iq_uz, iq_rz]; rw [sf_uzn _ (by decide), sf_uzn _ (by decide)]
    · rw [← kc (G 20) (G 29) j y1 y2]; simp [iq_uz, iq_rz]; rw [sf_uzn _ (by decide), sf_uzn _ (by decide)]
    · rw [← kc (G 21) (G 30) j y1 y2]; simp [iq_uz, iq_rz]; rw [sf_uzn _ (by decide), sf_uzn _ (by decide)]
    · rw [← hs.2.1.2.1]; simp [iq_uz, iq_rz]
    · simp [iq_uz, iq_rz]
    · rw [← hs.2.2.2.2.1]; simp [iq_uz, iq_rz]
    · rw [← hs.2.2.2.2.2]; simp [iq_uz, iq_rz]
    · simp [iq_uz]
  · refine q2 ⟨c1, c2, c3⟩ z _ ((hk.km.uz (.inr (by simp [iq_Mw]))).uz (.inl iq_sx00)) (fun j hj => ?_) (by simp [iq_uz]) (by rw [← f7]; simp [iq_uz]) (by rw [← f8]; simp [iq_uz]) (by simp [iq_uz])
    rw [sf_uzn _ (by omega), sf_uzn _ (by omega), hk.1 j (by omega) (by omega), sf_uzn _ (by omega)]
