/-! Studies lived, in the model: ends that are come to. -/
theorem sf_PV.close {D : Int → Int} {m : Nat} {n : Int} {K T M B : Int → Int} (h : sf_PV D m n K T M B) {k : Nat} (hk : k < m) (h17 : D (6 * k) = 17) : ∃ o, sf_E D k = o :: sf_E D o ∧ D (6 * k + 4) = o ∧ o < k ∧ sf_isO (D (6 * o)) = true ∧ B (sf_c D o) = sf_c D k ∧ sf_E D (k + 1) = sf_E D o ∧ D (6 * o + 4) = k := by
  obtain ⟨o, r, e1, e2⟩ := h.2.2.2.2.1 k hk h17
  have er := sf_E_suf D k [] o r e1
  rw [er] at e1
  have hm : o ∈ sf_E D k := by rw [e1]; exact List.mem_cons_self
  have o1 := sf_E_lt D k o hm
  have o2 := sf_E_op D k o hm
  have hE := h.after h17 e1
  obtain ⟨c, f1, f2, f3, f4, f5, f6⟩ := h.2.2.2.2.2.1 o (by omega) o2
  have ck : c = k := by
    rcases Nat.lt_trichotomy c k with z | z | z
    · have := sf_E_out D (h.after f4 f5) f2 (k - c - 1)
      rw [show c + 1 + (k - c - 1) = k by omega] at this
      exact absurd hm this
    · exact z
    · have := sf_E_out D hE o1 (c - k - 1)
      rw [show k + 1 + (c - k - 1) = c by omega, f5] at this
      exact absurd List.mem_cons_self this
  rw [ck] at f1 f6
  exact ⟨o, e1, e2, o1, o2, f6, hE, f1⟩
theorem sf_rw12 {D K T M : Int → Int} {i : Nat} (h : sf_rww D K T M i) (e : D (6 * i) = 12) : K (sf_c D i) = 4 ∧ M (sf_c D i) = D (6 * i + 1) ∧ (0 ≤ M (sf_c D i) ∧ M (sf_c D i) ≤ 59) := by
  unfold sf_rww at h
  omega
theorem sf_rw16 {D K T M : Int → Int} {i : Nat} (h : sf_rww D K T M i) (e : D (6 * i) = 16) : K (sf_c D i) = 6 ∧ M (sf_c D i) = D (6 * i + 1) ∧ (1 ≤ M (sf_c D i) ∧ M (sf_c D i) ≤ 99) := by
  unfold sf_rww at h
  omega
theorem sf_lp1 {n : Int} {K T M B : Int → Int} {X : iq_I} (S : Int64) (h : X 0 4 = 0) (f : Nat) : sf_lp n K T M B (f + 1) X S = sf_lp n K T M B f (sf_tX n K T M B X S) (sf_tS n K M B X S) := by
  rw [sf_lp, if_pos h]
theorem sf_isO3 {a : Int} (h : sf_isO a = true) : a = 12 ∨ a = 16 ∨ 1500 ≤ a := by
  unfold sf_isO at h
  simp only [Bool.or_eq_true, decide_eq_true_eq] at h
  omega
theorem sf_J.row {D : Int → Int} {g0 g X : iq_I} {st : List Nat} {S : Int64} (h : sf_J D g0 g st X S) (hR : ∀ i, 0 ≤ i → i < 360 → g0 78 (92 + i) = D i) : ∀ i, 0 ≤ i → i < 360 → g 78 (92 + i) = D i := fun i a b => by
  rw [h.1.2.2 (92 + i) (by omega)]; exact hR i a b
theorem sf_J.l0 {D : Int → Int} {g0 g X : iq_I} {st : List Nat} {S : Int64} (h : sf_J D g0 g st X S) (o : Int) : sf_J D g0 (iq_uz g 100 o (g 100 o - 0)) st X S := by
  rw [Int.sub_zero, sf_uzs]; exact h
/-- a turn that ends a hold or a loop -/
theorem sf_tnn {D : Int → Int} {n : Int} {K T M B : Int → Int} {X g g0 : iq_I} {S : Int64} {o k : Nat} {r : List Nat} (h : sf_J D g0 g (o :: r) X S) (h3 : X 0 3 = sf_c D k) (hB : B (sf_c D o) = sf_c D k) : sf_top X = sf_c D o ∧ X 0 7 - 1 = r.length ∧ sf_tX n K T M B X S = sf_eX K M X ∧ sf_tS n K M B X S = sf_eS K M X S := by
  obtain ⟨k, z, a, c, lg, lo, dp, s⟩ := h
  simp only [List.length_cons] at dp
  rw [sf_ST] at s
  have e7 : X 0 7 - 1 = r.length := by omega
  have et : sf_top X = sf_c D o := by
    unfold sf_top
    rw [e7]
    exact s.1
  have ea : sf_ae B X = true := by
    unfold sf_ae
    rw [et, hB, h3]
    simp
    omega
  refine ⟨et, e7, ?_, ?_⟩
  · unfold sf_tX; rw [if_pos ea]
  · unfold sf_tS; rw [if_pos ea]
theorem sf_be {N : Nat} {xs : Nat → Int32} {Q : iq_T} {l : iq_J} {D : Int → Int} {g0 : iq_I} {m : Nat} {n : Int} {K T M B : Int → Int} (hV : sf_PV D m n K T M B) (hP : sf_GP n K T M B) (hR : ∀ i, 0 ≤ i → i < 360 → g0 78 (92 + i) = D i) (hm : g0 78 10 = m) (v1 : Int) (e : Nat) : ∀ (k : Nat) (g X : iq_I) (S : Int64) (b : Int) (d3 d4 : Option iq_V), k + e = m → sf_J D g0 g (sf_hl D (sf_E D k)) X S → X 0 3 = sf_c D k → X 0 4 = 0 → X 0 14 = 0 → sf_GX n b X → (∀ (k' : Nat) (g' X' : iq_I) (S' : Int64) (j : Nat), k' ≤ m → (k' = m ∨ ¬ D (6 * k') = 17) → sf_J D g0 g' (sf_hl D (sf_E D k')) X' S' → X' 0 3 = sf_c D k' → X' 0 4 = 0 → X' 0 9 = X 0 9 → X' 0 14 = 0 → sf_GX n (b + j) X' → j ≤ (sf_E D k).length → (∀ f, sf_lp n K T M B (f + j) X S = sf_lp n K T M B f X' S') → Q (some (iq_i k')) g' l) → iq_P N xs 342 2 [some (iq_r 77), some (iq_i v1), some (iq_i k), d3, d4] [] g l Q := by
  have hm60 := hV.1
  induction e with
  | zero =>
    intro k g X S b d3 d4 hk h h3 h4 h101 hX q
    have e10 : g 78 10 = m := by rw [h.1.2.2 10 (by omega)]; exact hm
    have kk : k = m := by omega
    refine B342_p2_77 _ _ _ _ _ _ ?_
    rw [e10]
    exact ⟨by omega, fun _ => q k g X S 0 (by omega) (.inl kk) h h3 h4 rfl h101 (hX.up (by omega)) (by omega) (fun f => rfl), fun h => by omega⟩
  | succ e ih =>
    intro k g X S b d3 d4 hk h h3 h4 h101 hX q
    have e10 : g 78 10 = m := by rw [h.1.2.2 10 (by omega)]; exact hm
    have rw0 := h.row hR
    have r0 := rw0 (6 * k) (by omega) (by omega)
    refine B342_p2_77 _ _ _ _ _ _ ?_
    rw [e10, r0]
    by_cases h17 : D (6 * k) = 17
    · obtain ⟨o, c1, c2, c3, c4, c5, c6, c7⟩ := hV.close (by omega) h17
      have r4 := rw0 (6 * k + 4) (by omega) (by omega)
      rw [← Int.add_assoc, c2] at r4
      have ro := rw0 (6 * o) (by omega) (by omega)
      have hlen := hV.2.2.2.1 k (by omega)
      rw [c1] at h q hlen
      simp only [List.length_cons] at hlen
      have o17 : ¬ D (6 * o) = 17 := by have := sf_isO3 c4; omega
      have rwo := hV.2.2.2.2.2.2.2 o (by omega) o17
      have ck1 : sf_c D (k + 1) = sf_c D k := by rw [sf_c, if_pos h17]; rfl
      rw [r4, ro]
      refine ⟨by omega, fun h => by omega, fun _ => ⟨by omega, by omega, fun h => absurd h17 h, fun _ => ⟨by omega, by omega, by have := sf_isO3 c4; have := rwo; unfold sf_rww at this; omega, fun n16 => ?_, fun y16 => ?_⟩⟩⟩
      · -- no loop
        by_cases y12 : D (6 * o) = 12
        · -- a hold
          obtain ⟨k4, kM, kR⟩ := sf_rw12 rwo y12
          rw [sf_hl, if_pos (.inl y12)] at h
          obtain ⟨t1, t2, t3, t4⟩ := sf_tnn (n := n) (K := K) (T := T) (M := M) h h3 c5
          have hl := sf_hl_len D (sf_E D o)
          refine B342_p75_77 _ _ _ _ _ _ ⟨by omega, by omega, by omega, ?_⟩
          rw [show (iq_uz g 100 o (g 100 o - 0)) = g by rw [Int.sub_zero, sf_uzs]]
          rw [ro]
          refine ⟨by omega, fun h => absurd y12 h, fun _ => ?_⟩
          refine sp341 h y12 (by omega) (by omega) (fun g' j' => ⟨rfl, B342_p133_77 _ _ _ _ _ _ ?_⟩)
          have eX : sf_tX n K T M B X S = sf_dX (iq_uz X 0 7 (X 0 7 - 1)) (D (6 * o + 1)) := by
            rw [t3]; unfold sf_eX; rw [t1, if_pos k4, kM]
          have eS : sf_tS n K M B X S = sf_rlS S (D (6 * o + 1)) := by
            rw [t4]; unfold sf_eS; rw [t1, if_pos k4, kM]
          have hX' := hX.tX hP S
          rw [eX] at hX'
          have x3 : ∀ i, ¬ i = 13 → ¬ i = 7 → (sf_dX (iq_uz X 0 7 (X 0 7 - 1)) (D (6 * o + 1))) 0 i = X 0 i := fun i y z => by
            unfold sf_dX
            split <;> simp [iq_uz, y, z]
          rw [show ((k : Nat) : Int) + 1 = ((k + 1 : Nat) : Int) by omega]
          refine ih (k + 1) g' _ _ _ _ _ (by omega) (by rw [c6]; exact j') (by rw [x3 3 (by decide) (by decide), h3, ck1]) (by rw [x3 4 (by decide) (by decide)]; exact h4) (by rw [x3 14 (by decide) (by decide)]; exact h101) hX' (fun k' g2 X2 S2 j a1 a2 a3 a4 a5 a6 a7 a8 a9 a10 => q k' g2 X2 S2 (j + 1) a1 a2 a3 a4 a5 (by rw [a6, x3 9 (by decide) (by decide)]) a7 (a8.up (by omega)) (by rw [c6] at a9; simp only [List.length_cons]; omega) (fun f => ?_))
          rw [← Nat.add_assoc, sf_lp1 S h4, eX, eS]
          exact a10 f
        · -- a when
          rw [sf_hl, if_neg (by omega)] at h
          refine B342_p75_77 _ _ _ _ _ _ ⟨by omega, by omega, by omega, ?_⟩
          rw [show (iq_uz g 100 o (g 100 o - 0)) = g by rw [Int.sub_zero, sf_uzs]]
          rw [ro]
          refine ⟨by have := rwo; unfold sf_rww at this; omega, fun _ => B342_p133_77 _ _ _ _ _ _ ?_, fun h => absurd h y12⟩
          rw [show ((k : Nat) : Int) + 1 = ((k + 1 : Nat) : Int) by omega]
          refine ih (k + 1) g X S b _ _ (by omega) (by rw [c6]; exact h) (by rw [h3, ck1]) h4 h101 hX (fun k' g2 X2 S2 j a1 a2 a3 a4 a5 a6 a7 a8 a9 a10 => q k' g2 X2 S2 j a1 a2 a3 a4 a5 a6 a7 a8 (by rw [c6] at a9; simp only [List.length_cons]; omega) a10)
      · -- a loop
        obtain ⟨k6, kM, kR⟩ := sf_rw16 rwo y16
        rw [sf_hl, if_pos (.inr y16)] at h
        obtain ⟨t1, t2, t3, t4⟩ := sf_tnn (n := n) (K := K) (T := T) (M := M) h h3 c5
        have hs := h.2.2.2.2.2.2.2
        rw [sf_ST] at hs
        rcases hs.2 with s2 | s2
        · obtain ⟨s21, s22, s23, s24⟩ := s2
          have eS : sf_tS n K M B X S = S := by
            rw [t4]; unfold sf_eS; rw [t1, if_neg (by omega)]
          have hX' := hX.tX hP S
          have hmem : ∀ x, x ∈ sf_hl D (sf_E D o) → x < o := fun x hx => sf_E_lt D o x (sf_hl_mem D _ x hx).1
          have hRg := hX.top (by rw [show X 0 7 = (sf_hl D (sf_E D o)).length + 1 by omega]; omega)
          rw [t2, s22] at hRg
          refine B342_p62_77 _ _ _ _ _ _ ⟨by omega, by omega, fun z => ?_, fun z => ?_⟩
          · have eX : sf_tX n K T M B X S = iq_uz (iq_uz X 2 (X 0 7 - 1) (X 2 (X 0 7 - 1) - 1)) 0 7 (X 0 7 - 1) := by
              rw [t3]; unfold sf_eX; rw [t1, if_neg (by omega), if_neg (by rw [t2, s22]; omega)]
            rw [eX] at hX'
            refine B342_p75_77 _ _ _ _ _ _ ⟨by omega, by omega, by omega, ?_⟩
            rw [show (iq_uz g 100 o (g 100 o - 0)) = g by rw [Int.sub_zero, sf_uzs]]
            rw [ro]
            refine ⟨by omega, fun _ => B342_p133_77 _ _ _ _ _ _ ?_, fun h => by omega⟩
            have j' : sf_J D g0 g (sf_hl D (sf_E D o)) (iq_uz (iq_uz X 2 (X 0 7 - 1) (X 2 (X 0 7 - 1) - 1)) 0 7 (X 0 7 - 1)) S := by
              obtain ⟨k, z, a, c, lg, lo, dp, s⟩ := h
              have x0 : ∀ i, ¬ i = 7 → (iq_uz (iq_uz X 2 (X 0 7 - 1) (X 2 (X 0 7 - 1) - 1)) 0 7 (X 0 7 - 1)) 0 i = X 0 i := fun i y => by simp [iq_uz, y]
              have xj : ∀ j, ¬ j = 0 → ¬ j = 2 → (iq_uz (iq_uz X 2 (X 0 7 - 1) (X 2 (X 0 7 - 1) - 1)) 0 7 (X 0 7 - 1)) j = X j := fun j y z => by rw [sf_uzn _ y, sf_uzn _ z]
              unfold sf_J
              rw [xj 1 (by decide) (by decide), xj 3 (by decide) (by decide), xj 4 (by decide) (by decide), xj 5 (by decide) (by decide), xj 6 (by decide) (by decide), x0 2 (by decide), x0 9 (by decide), x0 10 (by decide), x0 11 (by decide), x0 12 (by decide), x0 13 (by decide), x0 14 (by decide)]
              refine ⟨k, z, a, c, lg, lo, ?_, ?_⟩
              · rw [show (iq_uz (iq_uz X 2 (X 0 7 - 1) (X 2 (X 0 7 - 1) - 1)) 0 7 (X 0 7 - 1)) 0 7 = X 0 7 - 1 by simp [iq_uz]]; exact t2
              · refine s24.congr (fun i hi => ⟨rfl, ?_⟩) (fun _ _ => rfl) (fun _ _ _ => rfl)
                rw [sf_uzn _ (by decide), t2]
                have : ¬ (i : Int) = (sf_hl D (sf_E D o)).length := by omega
                simp [iq_uz, this]
            rw [show ((k : Nat) : Int) + 1 = ((k + 1 : Nat) : Int) by omega]
            refine ih (k + 1) g _ _ _ _ _ (by omega) (by rw [c6]; exact j') (by rw [ck1, ← h3]; simp [iq_uz]) (by rw [← h4]; simp [iq_uz]) (by rw [← h101]; simp [iq_uz]) hX' (fun k' g2 X2 S2 j a1 a2 a3 a4 a5 a6 a7 a8 a9 a10 => q k' g2 X2 S2 (j + 1) a1 a2 a3 a4 a5 (by rw [a6]; simp [iq_uz]) a7 (a8.up (by omega)) (by rw [c6] at a9; simp only [List.length_cons]; omega) (fun f => ?_))
            rw [← Nat.add_assoc, sf_lp1 S h4, eX, eS]
            exact a10 f
          · have eX : sf_tX n K T M B X S = iq_uz (iq_uz X 2 (X 0 7 - 1) (X 2 (X 0 7 - 1) - 1)) 0 3 (sf_top X + 1) := by
              rw [t3]; unfold sf_eX; rw [t1, if_neg (by omega), if_pos (by rw [t2, s22]; omega)]
            rw [eX] at hX'
            have e78 : (iq_uz g 100 o (g 100 o - 1)) 78 = g 78 := sf_uzn g (by decide) _ _
            have j' : sf_J D g0 (iq_uz g 100 o (g 100 o - 1)) (o :: sf_hl D (sf_E D o)) (iq_uz (iq_uz X 2 (X 0 7 - 1) (X 2 (X 0 7 - 1) - 1)) 0 3 (sf_top X + 1)) S := by
              obtain ⟨k, z, a, c, lg, lo, dp, s⟩ := h
              have x0 : ∀ i, ¬ i = 3 → (iq_uz (iq_uz X 2 (X 0 7 - 1) (X 2 (X 0 7 - 1) - 1)) 0 3 (sf_top X + 1)) 0 i = X 0 i := fun i y => by simp [iq_uz, y]
              have xj : ∀ j, ¬ j = 0 → ¬ j = 2 → (iq_uz (iq_uz X 2 (X 0 7 - 1) (X 2 (X 0 7 - 1) - 1)) 0 3 (sf_top X + 1)) j = X j := fun j y z => by rw [sf_uzn _ y, sf_uzn _ z]
              have eg : ∀ j, ¬ j = 100 → (iq_uz g 100 o (g 100 o - 1)) j = g j := fun j y => sf_uzn g y _ _
              unfold sf_J
              rw [xj 1 (by decide) (by decide), xj 3 (by decide) (by decide), xj 4 (by decide) (by decide), xj 5 (by decide) (by decide), xj 6 (by decide) (by decide), x0 2 (by decide), x0 7 (by decide), x0 9 (by decide), x0 10 (by decide), x0 11 (by decide), x0 12 (by decide), x0 13 (by decide), x0 14 (by decide), eg 77 (by decide), eg 101 (by decide), eg 104 (by decide), eg 103 (by decide)]
              refine ⟨k.uz (by omega), ⟨z.1, sf_MSc z.2 e78⟩, a, c, lg, lo, dp, ?_⟩
              rw [sf_ST]
              refine ⟨hs.1, .inl ⟨s21, ?_, ⟨?_, s23.2⟩, s24.congr (fun i hi => ⟨rfl, ?_⟩) (fun x hx => ?_) (fun _ _ _ => rfl)⟩⟩
              · rw [sf_uzn _ (by decide), t2]
                simp [iq_uz, s22]
              · simp [iq_uz]; omega
              · rw [sf_uzn _ (by decide), t2]
                have : ¬ (i : Int) = (sf_hl D (sf_E D o)).length := by omega
                simp [iq_uz, this]
              · have := hmem x hx
                have : ¬ (x : Int) = o := by omega
                simp [iq_uz, this]
            have Eo : sf_E D (o + 1) = o :: sf_E D o := by rw [sf_E, if_pos c4]
            have co : sf_c D (o + 1) = sf_c D o + 1 := by rw [sf_c, if_neg o17]
            have r1 := rw0 (6 * (o + 1 : Nat)) (by omega) (by omega)
            refine ⟨by omega, by omega, by omega, ?_⟩
            rw [ro]
            refine ⟨by omega, fun _ => B342_p133_77 _ _ _ _ _ _ (B342_p2_77 _ _ _ _ _ _ ?_), fun h => by omega⟩
            rw [show ((o : Nat) : Int) + 1 = ((o + 1 : Nat) : Int) by omega, e78, e10, r1]
            refine ⟨by omega, fun h => by omega, fun _ => ⟨by omega, by have := hV.2.2.2.2.2.2.2 (o + 1) (by omega) s23.2; unfold sf_rww at this; omega, fun _ => ?_, fun h => absurd h s23.2⟩⟩
            refine q (o + 1) _ _ S 1 (by omega) (.inr s23.2) (by rw [Eo, sf_hl, if_pos (.inr y16)]; exact j') ?_ (by rw [← h4]; simp [iq_uz]) (by simp [iq_uz]) (by rw [← h101]; simp [iq_uz]) (hX'.up (by omega)) (by simp only [List.length_cons]; omega) (fun f => by rw [sf_lp1 S h4, eX, eS])
            rw [show (iq_uz (iq_uz X 2 (X 0 7 - 1) (X 2 (X 0 7 - 1) - 1)) 0 3 (sf_top X + 1)) 0 3 = sf_top X + 1 by simp [iq_uz], t1, co]
            omega
        · exact absurd s2.1 (by omega)
    · have rwk := hV.2.2.2.2.2.2.2 k (by omega) h17
      exact ⟨by omega, fun h => by omega, fun _ => ⟨by omega, by unfold sf_rww at rwk; omega, fun _ => q k g X S 0 (by omega) (.inr h17) h h3 h4 rfl h101 (hX.up (by omega)) (by omega) (fun f => rfl), fun h => absurd h h17⟩⟩
