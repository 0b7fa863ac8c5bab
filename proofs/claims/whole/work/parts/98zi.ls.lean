/-! The law's cases: what changes the scale. -/
theorem mGlide0 {N : Nat} {xs : Nat → Int32} {Q : iq_T} {g : iq_I} {l : iq_J} {n : Int} (hn : -2147483648 ≤ n ∧ n ≤ 2147483647) (h0 : ¬ (0 ≤ n ∧ n < 60)) (q0 : ∀ g' : iq_I, iq_KK g l g' l → g' 0 0 = g 0 0 → g' 77 1 = 1 → Q (some (iq_i (-1))) g' l) : iq_P N xs 195 0 [some (iq_r 77), some (iq_i n), none] [] g l Q := by
  have en := iq_i2lv hn.1 hn.2
  have e59 : (Int64.ofNat 59).toInt = 59 := by decide
  refine B195_77 _ _ _ (sp149 (fun a b => ?_) (fun a => ⟨_, rfl, by omega, fun h => by omega, fun _ => sp98 ⟨_, rfl, ?_⟩⟩))
  · exfalso
    rw [en, iq_of640] at a
    rw [en, e59] at b
    omega
  · exact q0 _ ((iq_KK.refl _ _).uz iq_sx771) (by simp [iq_uz]) (by simp [iq_uz])
theorem sf_L20 {N : Nat} {xs : Nat → Int32} {Q : iq_T} {g : iq_I} {l : iq_J} {v3 : Int} (h : sf_INV g l) (hv : 0 ≤ v3 ∧ v3 + 5 < N ∧ (N : Int) ≤ 3072) (q : ∀ (g' : iq_I) (l' : iq_J), sf_INV g' l' → iq_P N xs 361 1940 [some (iq_r 1000000), some (iq_r 0), some (iq_r 77), some (iq_i v3)] [] g' l' Q) : iq_P N xs 361 929 [some (iq_r 1000000), some (iq_r 0), some (iq_r 77), some (iq_i v3)] [] g l Q := by
  have hz := h.1.1.cz
  have hm := h.1.1.ms
  have m12 := hz.1.2.2.1.2
  refine B361_c20 _ _ _ ⟨by omega, iq_Pw (cPress hz (sf_xR _) (fun a g1 l1 k1 c1 e1 => ⟨_, rfl, ?_⟩) (fun a g1 l1 k1 e1 => ⟨_, rfl, ?_⟩))⟩
  · exact B361_d20 _ _ _ _ ⟨by omega, iq_Pw (mPress hz.1 (hm.keep k1 (by omega) m12) (sf_xR _) (fun _ g2 k2 m2 e2 e3 => ⟨_, rfl, sf_cl rfl (q g2 l1 (h.qs k1 k2 c1 m2 e1 e2 e3))⟩) (fun a2 => absurd a a2))⟩
  · exact B361_d20 _ _ _ _ ⟨by omega, iq_Pw (mPress hz.1 (hm.keep (k1.km iq_Mc) (by omega) m12) (sf_xR _) (fun a2 => absurd a2 a) (fun _ g2 k2 e2 e3 => ⟨_, rfl, sf_cl rfl (q g2 l1 (h.q k1 k2 e1 e2 e3))⟩))⟩
theorem sf_L21 {N : Nat} {xs : Nat → Int32} {Q : iq_T} {g : iq_I} {l : iq_J} {v3 : Int} (h : sf_INV g l) (hv : 0 ≤ v3 ∧ v3 + 5 < N ∧ (N : Int) ≤ 3072) (q : ∀ (g' : iq_I) (l' : iq_J), sf_INV g' l' → iq_P N xs 361 1940 [some (iq_r 1000000), some (iq_r 0), some (iq_r 77), some (iq_i v3)] [] g' l' Q) : iq_P N xs 361 952 [some (iq_r 1000000), some (iq_r 0), some (iq_r 77), some (iq_i v3)] [] g l Q := by
  have hz := h.1.1.cz
  have hm := h.1.1.ms
  have m12 := hz.1.2.2.1.2
  refine B361_c21 _ _ _ ⟨by omega, iq_Pw (cLift hz (sf_xR _) (fun a g1 l1 k1 c1 e1 => ⟨_, rfl, ?_⟩) (fun a g1 l1 k1 e1 => ⟨_, rfl, ?_⟩))⟩
  · exact B361_d21 _ _ _ _ ⟨by omega, iq_Pw (mLift hz.1 (hm.keep k1 (by omega) m12) (sf_xR _) (fun _ g2 k2 m2 e2 e3 => ⟨_, rfl, sf_cl rfl (q g2 l1 (h.qs k1 k2 c1 m2 e1 e2 e3))⟩) (fun a2 => absurd a a2))⟩
  · exact B361_d21 _ _ _ _ ⟨by omega, iq_Pw (mLift hz.1 (hm.keep (k1.km iq_Mc) (by omega) m12) (sf_xR _) (fun a2 => absurd a2 a) (fun _ g2 k2 e2 e3 => ⟨_, rfl, sf_cl rfl (q g2 l1 (h.q k1 k2 e1 e2 e3))⟩))⟩
theorem sf_L24 {N : Nat} {xs : Nat → Int32} {Q : iq_T} {g : iq_I} {l : iq_J} {v3 : Int} (h : sf_INV g l) (hv : 0 ≤ v3 ∧ v3 + 5 < N ∧ (N : Int) ≤ 3072) (q : ∀ (g' : iq_I) (l' : iq_J), sf_INV g' l' → iq_P N xs 361 1940 [some (iq_r 1000000), some (iq_r 0), some (iq_r 77), some (iq_i v3)] [] g' l' Q) : iq_P N xs 361 1011 [some (iq_r 1000000), some (iq_r 0), some (iq_r 77), some (iq_i v3)] [] g l Q := by
  have hz := h.1.1.cz
  have hm := h.1.1.ms
  have m12 := hz.1.2.2.1.2
  refine B361_c24 _ _ _ (iq_Pw (cFlip hz (fun a g1 l1 k1 c1 e1 => ⟨_, rfl, ?_⟩) (fun a g1 l1 k1 e1 => ⟨_, rfl, ?_⟩)))
  · exact B361_d24 _ _ _ _ (iq_Pw (mFlip hz.1 (hm.keep k1 (by omega) m12) (fun _ g2 k2 m2 e2 e3 => ⟨_, rfl, sf_cl rfl (q g2 l1 (h.qs k1 k2 c1 m2 e1 e2 e3))⟩) (fun a2 => absurd a a2)))
  · exact B361_d24 _ _ _ _ (iq_Pw (mFlip hz.1 (hm.keep (k1.km iq_Mc) (by omega) m12) (fun a2 => absurd a2 a) (fun _ g2 k2 e2 e3 => ⟨_, rfl, sf_cl rfl (q g2 l1 (h.q k1 k2 e1 e2 e3))⟩)))
theorem sf_L22 {N : Nat} {xs : Nat → Int32} {Q : iq_T} {g : iq_I} {l : iq_J} {v3 : Int} (h : sf_INV g l) (hv : 0 ≤ v3 ∧ v3 + 5 < N ∧ (N : Int) ≤ 3072) (q : ∀ (g' : iq_I) (l' : iq_J), sf_INV g' l' → iq_P N xs 361 1940 [some (iq_r 1000000), some (iq_r 0), some (iq_r 77), some (iq_i v3)] [] g' l' Q) : iq_P N xs 361 975 [some (iq_r 1000000), some (iq_r 0), some (iq_r 77), some (iq_i v3)] [] g l Q := by
  have hz := h.1.1.cz
  have hm := h.1.1.ms
  have m12 := hz.1.2.2.1.2
  refine B361_c22 _ _ _ (iq_Pw (cSift hz (fun g1 l1 S' hS k1 c1 e1 => ⟨_, rfl, ?_⟩)))
  exact B361_d22 _ _ _ _ (iq_Pw (mSift hz.1 (hm.keep k1 (by omega) m12) hS (fun g2 k2 m2 e2 e3 => ⟨_, rfl, sf_cl rfl (q g2 l1 (h.qs k1 k2 c1 m2 e1 e2 e3))⟩)))
theorem sf_L23 {N : Nat} {xs : Nat → Int32} {Q : iq_T} {g : iq_I} {l : iq_J} {v3 : Int} (h : sf_INV g l) (hv : 0 ≤ v3 ∧ v3 + 5 < N ∧ (N : Int) ≤ 3072) (q : ∀ (g' : iq_I) (l' : iq_J), sf_INV g' l' → iq_P N xs 361 1940 [some (iq_r 1000000), some (iq_r 0), some (iq_r 77), some (iq_i v3)] [] g' l' Q) : iq_P N xs 361 988 [some (iq_r 1000000), some (iq_r 0), some (iq_r 77), some (iq_i v3)] [] g l Q := by
  have hz := h.1.1.cz
  have hm := h.1.1.ms
  have m12 := hz.1.2.2.1.2
  refine B361_c23 _ _ _ ⟨by omega, iq_Pw (cGlide hz (sf_xR _) (fun a g1 l1 S' hS k1 c1 e1 => ⟨_, rfl, ?_⟩) (fun a g1 l1 k1 e1 => ⟨_, rfl, ?_⟩))⟩
  · exact B361_d23 _ _ _ _ ⟨by omega, iq_Pw (mGlide hz.1 (hm.keep k1 (by omega) m12) (sf_xR _) (fun _ => c1) hS (fun _ g2 k2 m2 e2 e3 => ⟨_, rfl, sf_cl rfl (q g2 l1 (h.qs k1 k2 c1 m2 e1 e2 e3))⟩) (fun a2 => absurd a a2))⟩
  · exact B361_d23 _ _ _ _ ⟨by omega, iq_Pw (mGlide0 (sf_xR _) a (fun g2 k2 e2 e3 => ⟨_, rfl, sf_cl rfl (q g2 l1 (h.q k1 k2 e1 e2 e3))⟩))⟩
theorem sf_L19 {N : Nat} {xs : Nat → Int32} {Q : iq_T} {g : iq_I} {l : iq_J} {v3 : Int} (h : sf_INV g l) (hv : 0 ≤ v3 ∧ v3 + 5 < N ∧ (N : Int) ≤ 3072) (q : ∀ (g' : iq_I) (l' : iq_J), sf_INV g' l' → iq_P N xs 361 1940 [some (iq_r 1000000), some (iq_r 0), some (iq_r 77), some (iq_i v3)] [] g' l' Q) : iq_P N xs 361 896 [some (iq_r 1000000), some (iq_r 0), some (iq_r 77), some (iq_i v3)] [] g l Q := by
  have hz := h.1.1.cz
  have hm := h.1.1.ms
  have m12 := hz.1.2.2.1.2
  refine B361_c19 _ _ _ ⟨by omega, by omega, iq_Pw (cRule hz (sf_xR _) (sf_xR _) (fun a b g1 l1 k1 c1 e1 => ⟨_, rfl, ?_⟩) (fun a b g1 l1 k1 e1 => ⟨_, rfl, ?_⟩) (fun a g1 l1 k1 e1 => ⟨_, rfl, ?_⟩))⟩
  · exact B361_d19 _ _ _ _ ⟨by omega, by omega, iq_Pw (mRule hz.1 (hm.keep k1 (by omega) m12) (sf_xR _) (sf_xR _) (fun _ _ g2 k2 m2 e2 e3 => ⟨_, rfl, sf_cl rfl (q g2 l1 (h.qs k1 k2 c1 m2 e1 e2 e3))⟩) (fun _ b2 => absurd b2 b) (fun a2 => absurd a a2))⟩
  · exact B361_d19 _ _ _ _ ⟨by omega, by omega, iq_Pw (mRule hz.1 (hm.keep (k1.km iq_Mc) (by omega) m12) (sf_xR _) (sf_xR _) (fun _ b2 => absurd b b2) (fun _ _ g2 k2 e2 e3 => ⟨_, rfl, sf_cl rfl (q g2 l1 (h.q k1 k2 e1 e2 e3))⟩) (fun a2 => absurd a a2))⟩
  · exact B361_d19 _ _ _ _ ⟨by omega, by omega, iq_Pw (mRule hz.1 (hm.keep (k1.km iq_Mc) (by omega) m12) (sf_xR _) (sf_xR _) (fun a2 => absurd a2 a) (fun a2 => absurd a2 a) (fun _ g2 k2 e2 e3 => ⟨_, rfl, sf_cl rfl (q g2 l1 (h.q k1 k2 e1 e2 e3))⟩))⟩
