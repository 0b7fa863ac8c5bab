/-! Studies as a text in the model: a statement, to its end. -/
section US
variable {N : Nat} {xs : Nat → Int32} {Q : iq_T} {g0 g : iq_I} {l : iq_J} {A : Int → Int} {n p x c d : Int} {D W : Int → Int} {m : Nat}
theorem sf_nxN (hB : sf_PB D m) (hf : sf_hf A n p (sf_E D m).length (sf_c D m) = 0) (k17 : ¬ sf_kp A n p = 17) (hw : sf_kp A n p = 15 → sf_qf A n (sf_te A n p) = 0) : sf_PB (sf_nx A n p D m) (m + 1) ∧ sf_E (sf_nx A n p D m) (m + 1) = (if sf_opn (sf_kp A n p) = true then m :: sf_E D m else sf_E D m) ∧ sf_c (sf_nx A n p D m) (m + 1) = sf_c D m + 1 := by
  obtain ⟨b1, b2, b3, b4⟩ := hB
  have kk : sf_kp A n p = 5 ∨ (10 ≤ sf_kp A n p ∧ sf_kp A n p ≤ 18) := by
    unfold sf_hf at hf
    split at hf
    · omega
    split at hf
    · omega
    · omega
  have cl : sf_c D m < 30 ∧ ((sf_kp A n p = 12 ∨ sf_kp A n p = 15 ∨ sf_kp A n p = 16) → (sf_E D m).length < 3) := by
    unfold sf_hf at hf
    rw [if_neg (c := ¬ (sf_kp A n p = 5 ∨ (10 ≤ sf_kp A n p ∧ sf_kp A n p ≤ 18))) (by omega), if_neg (c := sf_kp A n p = 17 ∧ _) (by omega)] at hf
    split at hf
    · omega
    split at hf
    · omega
    split at hf
    · omega
    · omega
  have r0 := sf_nx_row A n p D m (f := 0) (by omega)
  rw [Int.add_zero] at r0
  have w9 : sf_kp A n p = 15 → 9 ≤ sf_kp A n (sf_te A n p) := fun e => by
    have w := hw e
    unfold sf_qf at w
    split at w
    · split at w <;> omega
    · omega
  have kR := sf_kpR A n (sf_te A n p)
  have r0' : sf_nx A n p D m (6 * m) = if sf_kp A n p = 15 then 1500 + sf_kp A n (sf_te A n p) else sf_kp A n p := by rw [r0, sf_rwf, if_pos rfl]
  have ne17 : ¬ sf_nx A n p D m (6 * m) = 17 := by rw [r0']; split <;> omega
  have iO : sf_isO (sf_nx A n p D m (6 * m)) = sf_opn (sf_kp A n p) := by
    rw [r0']
    unfold sf_isO sf_opn
    by_cases e : sf_kp A n p = 15
    · have := w9 e
      rw [if_pos e]
      simp [e]
      omega
    · rw [if_neg e]
      have : ¬ 1500 ≤ sf_kp A n p := by omega
      simp [e, this]
  have old0 : ∀ i : Nat, i < m → sf_nx A n p D m (6 * i) = D (6 * i) := fun i hi => by have := sf_nx_old (A := A) (n := n) (p := p) (D := D) hi (f := 0) (by omega) (by omega); rwa [Int.add_zero] at this
  have ec : sf_c (sf_nx A n p D m) (m + 1) = sf_c D m + 1 := by rw [sf_c, if_neg ne17, sf_c_ag old0 m (by omega)]
  have eE : sf_E (sf_nx A n p D m) (m + 1) = if sf_opn (sf_kp A n p) = true then m :: sf_E D m else sf_E D m := by rw [sf_E, if_neg ne17, sf_E_ag old0 m (by omega), iO]
  have L : (sf_E (sf_nx A n p D m) (m + 1)).length ≤ 3 ∧ (sf_E (sf_nx A n p D m) (m + 1)).length ≤ (sf_E D m).length + 1 := by
    rw [eE]
    split
    · next o => have := cl.2 (by unfold sf_opn at o; simpa using o); rw [List.length_cons]; omega
    · omega
  refine ⟨⟨by omega, by omega, L.1, fun i hi => ?_⟩, eE, ec⟩
  rcases Nat.lt_or_ge i m with im | z
  · rw [old0 i im]; exact b4 i im
  · rw [show i = m by omega, r0']; split
    · next e => have := w9 e; omega
    · omega
theorem sf_nxE {o : Nat} {r : List Nat} (hB : sf_PB D m) (k17 : sf_kp A n p = 17) (eo : sf_E D m = o :: r) : sf_PB (sf_nx A n p D m) (m + 1) ∧ sf_E (sf_nx A n p D m) (m + 1) = r ∧ sf_c (sf_nx A n p D m) (m + 1) = sf_c D m := by
  obtain ⟨b1, b2, b3, b4⟩ := hB
  have r0 := sf_nx_row A n p D m (f := 0) (by omega)
  rw [Int.add_zero] at r0
  have e17 : sf_nx A n p D m (6 * m) = 17 := by rw [r0, sf_rwf, if_pos rfl, if_neg (by omega), k17]
  have old0 : ∀ i : Nat, i < m → sf_nx A n p D m (6 * i) = D (6 * i) := fun i hi => by have := sf_nx_old (A := A) (n := n) (p := p) (D := D) hi (f := 0) (by omega) (by omega); rwa [Int.add_zero] at this
  have ec : sf_c (sf_nx A n p D m) (m + 1) = sf_c D m := by rw [sf_c, if_pos e17, sf_c_ag old0 m (by omega)]; rfl
  have eE : sf_E (sf_nx A n p D m) (m + 1) = r := by rw [sf_E, e17, if_neg (by rw [sf_isO17]; decide), if_pos rfl, sf_E_ag old0 m (by omega), eo]; rfl
  have ln : (sf_E D m).length = r.length + 1 := by rw [eo]; rfl
  refine ⟨⟨by omega, by rw [eE]; omega, by rw [eE]; omega, fun i hi => ?_⟩, eE, ec⟩
  rcases Nat.lt_or_ge i m with im | z
  · rw [old0 i im]; exact b4 i im
  · rw [show i = m by omega, e17]; omega
theorem sf_TI.push (h : sf_TI g0 g A n x D m c (sf_E D m).length W) : sf_TI g0 (iq_uz (iq_uz g 84 (sf_E D m).length m) 77 20 (((sf_E D m).length : Int) + 1)) A n x D m c (((sf_E D m).length : Int) + 1) W := by
  obtain ⟨h1, h2, h3, h4, h5, h6, h7, h8, h9⟩ := h
  have e7 : ∀ i : Int, ¬ i = 20 → (iq_uz (iq_uz g 84 (sf_E D m).length m) 77 20 (((sf_E D m).length : Int) + 1)) 77 i = g 77 i := fun i y => by simp [iq_uz, y]
  have e8 : (iq_uz (iq_uz g 84 (sf_E D m).length m) 77 20 (((sf_E D m).length : Int) + 1)) 78 = g 78 := by rw [sf_uzn _ (by decide), sf_uzn _ (by decide)]
  unfold sf_TI sf_MB sf_MT1
  rw [e8, e7 10 (by decide), e7 11 (by decide), e7 12 (by decide), e7 13 (by decide), e7 14 (by decide), e7 21 (by decide), e7 17 (by decide), e7 16 (by decide), show (iq_uz (iq_uz g 84 (sf_E D m).length m) 77 20 (((sf_E D m).length : Int) + 1)) 83 = g 83 by rw [sf_uzn _ (by decide), sf_uzn _ (by decide)]]
  refine ⟨⟨fun j y1 y2 y3 => by rw [sf_uzn _ y1, sf_uzn _ y3]; exact h1.1 j y1 y2 y3, fun i y1 y2 y3 => by rw [e7 i (by omega)]; exact h1.2.1 i y1 y2 y3, fun i y => by rw [e8]; exact h1.2.2 i y⟩, h2, h3, ⟨h4.1, by simp [iq_uz], h4.2.2⟩, h5, h6, sf_SL_congr h7 (fun i i1 i2 => ?_) (fun _ _ => rfl), h8, h9⟩
  have : ¬ i = ((sf_E D m).length : Int) := by omega
  simp [iq_uz, this]
theorem sf_TSn (hT : sf_TI g0 g A n x D m ((sf_c D m : Int) + 1) d W) (hW : ∀ f : Int, 0 ≤ f → f < 6 → W f = sf_rwf A n p D m f) (hB : sf_PB D m) (hf : sf_hf A n p (sf_E D m).length (sf_c D m) = 0) (k17 : ¬ sf_kp A n p = 17) (hw : sf_kp A n p = 15 → sf_qf A n (sf_te A n p) = 0) (hd : d = if sf_opn (sf_kp A n p) = true then ((sf_E D m).length : Int) + 1 else (sf_E D m).length) (ho : sf_opn (sf_kp A n p) = true → g 84 (sf_E D m).length = m) : sf_TS g0 g A n x (sf_nx A n p D m) (m + 1) := by
  obtain ⟨h1, h2, h3, h4, h5, h6, h7, h8, h9⟩ := hT
  obtain ⟨z1, z2, z3⟩ := sf_nxN hB hf k17 hw
  refine ⟨h1, h2, h3, ⟨by rw [h4.1]; rfl, ?_, by rw [h4.2.2, z3]; rfl⟩, fun i i1 i2 => ?_, ?_, z1, h8, h9⟩
  · rw [h4.2.1, hd, z2]
    split
    · rw [List.length_cons]; rfl
    · rfl
  · unfold sf_nx
    by_cases c : 6 * (m : Int) ≤ i
    · rw [if_pos ⟨c, by omega⟩, ← hW _ (by omega) (by omega), ← h6 _ (by omega) (by omega), show 1932 + 6 * (m : Int) + (i - 6 * m) = 1932 + i by omega]
    · rw [if_neg (by omega), if_neg (by omega)]; exact h5 i i1 (by omega)
  · rw [z2]
    split
    · next o => exact ⟨ho o, h7⟩
    · exact h7
def sf_K130 (N : Nat) (xs : Nat → Int32) (Q : iq_T) (v1 v2 v3 v4 v5 : Int) : Option iq_V → iq_I → iq_J → Prop := fun r g3 l4 => ∃ z5, r = some (iq_i z5) ∧ ((-2147483648 ≤ z5 ∧ z5 ≤ 2147483647) ∧
          (¬ z5 = (0 : Int) → ((-2147483648 ≤ v1 ∧ v1 ≤ 2147483647) ∧
            (¬ v1 = (13 : Int) → (iq_P N xs 131 238 [some (iq_r 77), some (iq_i v1), some (iq_i v2), some (iq_i v3), some (iq_i v4), some (iq_i v5), some (iq_i 0)] [] g3 l4 Q)) ∧
            (v1 = (13 : Int) → ((0 ≤ (v3 + 4) ∧ (v3 + 4) < 2392) ∧ (iq_P N xs 131 238 [some (iq_r 77), some (iq_i v1), some (iq_i v2), some (iq_i v3), some (iq_i v4), some (iq_i v5), some (iq_i 0)] [] (iq_uz g3 78 (v3 + 4) (-1)) l4 Q))))) ∧
          (z5 = (0 : Int) → (Q (some (iq_i 0)) g3 l4)))
theorem sp131_z {v2 v4 v5 c' : Int} (hS : sf_TS g0 g A n p D m) (hp : 0 ≤ p ∧ p ≤ n) (k4 : ¬ sf_tk A n p = 4) (hm : m < 60) (kR : -1 ≤ sf_kp A n p ∧ sf_kp A n p ≤ 20) (q : ∀ G : iq_I, sf_TI g0 G A n (sf_te A n p) D m c' (sf_E D m).length (fun f => if f = 0 then sf_kp A n p else 0) → iq_P N xs 130 0 [some (iq_r 77), some (iq_i (sf_kp A n p)), some (iq_i (1932 + 6 * m))] [] G l (sf_K130 N xs Q (sf_kp A n p) v2 (1932 + 6 * m) v4 v5)) (f : Nat) : ∀ (v : Nat) (G : iq_I), v + f = 6 → 1 ≤ v → (∀ j, ¬ j = 77 → ¬ j = 78 → G j = g j) → (∀ i, ¬ i = 21 → G 77 i = g 77 i) → G 77 21 = c' → (∀ i : Int, ¬ (1932 + 6 * m ≤ i ∧ i < 1932 + 6 * m + 6) → G 78 i = g 78 i) → G 78 (1932 + 6 * m) = sf_kp A n p → (∀ i : Int, 1 ≤ i → i < v → G 78 (1932 + 6 * m + i) = 0) → iq_P N xs 131 170 [some (iq_r 77), some (iq_i (sf_kp A n p)), some (iq_i v2), some (iq_i (1932 + 6 * m)), some (iq_i v4), some (iq_i v5), some (iq_i v)] [] G l Q := by
  have tR := sf_teR (A := A) hp
  have sR := sf_tsR (A := A) hp
  induction f with
  | zero =>
    intro v G hv v1 a1 a2 a3 a4 a5 a6
    obtain ⟨h1, h2, h3, h4, h5, h6, h7, h8, h9⟩ := hS
    refine B131_p170_77 _ _ _ _ _ _ _ _ ⟨by omega, fun _ => ?_, fun h => by omega⟩
    have e1850 : G 78 1850 = m := by rw [a4 1850 (by omega)]; exact h4.1
    rw [e1850]
    have o7 : ∀ i : Int, ¬ i = 21 → (iq_uz G 78 1850 ((m : Int) + 1)) 77 i = g 77 i := fun i y => by rw [sf_uzn _ (by decide)]; exact a2 i y
    have oj : ∀ j, ¬ j = 77 → ¬ j = 78 → (iq_uz G 78 1850 ((m : Int) + 1)) j = g j := fun j y1 y2 => by rw [sf_uzn _ y2]; exact a1 j y1 y2
    have TI0 : sf_TI g0 (iq_uz G 78 1850 ((m : Int) + 1)) A n p D m c' (sf_E D m).length (fun f => if f = 0 then sf_kp A n p else 0) := by
      unfold sf_TI sf_MB sf_MT1
      rw [o7 10 (by decide), o7 11 (by decide), o7 12 (by decide), o7 13 (by decide), o7 14 (by decide), o7 20 (by decide), o7 17 (by decide), o7 16 (by decide), oj 83 (by decide) (by decide), oj 84 (by decide) (by decide)]
      refine ⟨⟨fun j y1 y2 y3 => by rw [oj j y1 y2]; exact h1.1 j y1 y2 y3, fun i y1 y2 y3 => by rw [o7 i (by omega)]; exact h1.2.1 i y1 y2 y3, fun i y => by rw [iq_uz78 (by omega), a4 i (by omega)]; exact h1.2.2 i y⟩, h2, h3, ⟨by simp [iq_uz], h4.2.1, by rw [sf_uzn _ (by decide)]; exact a3⟩, fun i i1 i2 => by rw [iq_uz78 (by omega), a4 _ (by omega)]; exact h5 i i1 i2, fun i i1 i2 => ?_, h6, h8, h9⟩
      rw [iq_uz78 (by omega)]
      show _ = if i = 0 then sf_kp A n p else 0
      by_cases e : i = 0
      · rw [e, if_pos rfl, Int.add_zero]; exact a5
      · rw [if_neg e]; exact a6 i (by omega) (by omega)
    exact sp96 TI0.2.1 (TI0.2.2.1.2.2.1 k4) (by omega) (fun G2 k t => ⟨rfl, q G2 (TI0.ak k t)⟩)
  | succ f ih =>
    intro v G hv v1 a1 a2 a3 a4 a5 a6
    refine B131_p170_77 _ _ _ _ _ _ _ _ ⟨by omega, fun h => by omega, fun _ => ⟨by omega, ?_⟩⟩
    rw [show ((v : Nat) : Int) + 1 = ((v + 1 : Nat) : Int) by omega]
    refine ih (v + 1) _ (by omega) (by omega) (fun j y1 y2 => by rw [sf_uzn _ y2]; exact a1 j y1 y2) (fun i y => by rw [sf_uzn _ (by decide)]; exact a2 i y) (by rw [sf_uzn _ (by decide)]; exact a3) (fun i y => by rw [iq_uz78 (by omega)]; exact a4 i y) (by rw [iq_uz78 (by omega)]; exact a5) (fun i y1 y2 => ?_)
    by_cases e : i = v
    · rw [e]; simp [iq_uz]
    · rw [iq_uz78 (by omega)]; exact a6 i y1 (by omega)
end US
