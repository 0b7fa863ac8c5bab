/-! Studies as a text in the model: a statement, whole. -/
section UT
variable {N : Nat} {xs : Nat → Int32} {Q : iq_T} {g0 g : iq_I} {l : iq_J} {A : Int → Int} {n p x : Int} {D : Int → Int} {m : Nat}
theorem sf_TS.ak {g' : iq_I} {x' : Int} (h : sf_TS g0 g A n x D m) (k : sf_AK g g') (t : sf_MT1 g' A n x') : sf_TS g0 g' A n x' D m := by
  obtain ⟨h1, h2, h3, h4, h5, h6, h7, h8, h9⟩ := h
  unfold sf_TS
  rw [k.1 78 (by decide), k.1 84 (by decide), k.2 20 (by omega), k.2 21 (by omega), k.2 17 (by omega), k.2 16 (by omega)]
  exact ⟨h1.ak k, h2.k k, t, h4, h5, h6, h7, h8, h9⟩
theorem sf_TSe {o : Nat} {r : List Nat} (hT : sf_TI g0 g A n x D m (sf_c D m) (sf_E D m).length (sf_rw0 A n p D m)) (hB : sf_PB D m) (k17 : sf_kp A n p = 17) (eo : sf_E D m = o :: r) : sf_TS g0 (iq_uz (iq_uz (iq_uz g 77 20 (((sf_E D m).length : Int) - 1)) 78 (1932 + 6 * m + 4) o) 78 (1932 + 6 * o + 4) m) A n x (sf_nx A n p D m) (m + 1) := by
  obtain ⟨h1, h2, h3, h4, h5, h6, h7, h8, h9⟩ := hT
  obtain ⟨z1, z2, z3⟩ := sf_nxE hB k17 eo
  have om := sf_E_lt D m o (by rw [eo]; exact List.mem_cons_self)
  have ln : (sf_E D m).length = r.length + 1 := by rw [eo]; rfl
  have hd : sf_hd (sf_E D m) = o := by rw [eo]; rfl
  have e7 : ∀ i : Int, ¬ i = 20 → (iq_uz (iq_uz (iq_uz g 77 20 (((sf_E D m).length : Int) - 1)) 78 (1932 + 6 * m + 4) o) 78 (1932 + 6 * o + 4) m) 77 i = g 77 i := fun i y => by simp [iq_uz, y]
  have ej : ∀ j, ¬ j = 77 → ¬ j = 78 → (iq_uz (iq_uz (iq_uz g 77 20 (((sf_E D m).length : Int) - 1)) 78 (1932 + 6 * m + 4) o) 78 (1932 + 6 * o + 4) m) j = g j := fun j y1 y2 => by rw [sf_uzn _ y2, sf_uzn _ y2, sf_uzn _ y1]
  have e8 : ∀ i : Int, ¬ i = 1932 + 6 * m + 4 → ¬ i = 1932 + 6 * o + 4 → (iq_uz (iq_uz (iq_uz g 77 20 (((sf_E D m).length : Int) - 1)) 78 (1932 + 6 * m + 4) o) 78 (1932 + 6 * o + 4) m) 78 i = g 78 i := fun i y1 y2 => by rw [iq_uz78 y2, iq_uz78 y1, sf_uzn _ (by decide)]
  have em : (iq_uz (iq_uz (iq_uz g 77 20 (((sf_E D m).length : Int) - 1)) 78 (1932 + 6 * m + 4) o) 78 (1932 + 6 * o + 4) m) 78 (1932 + 6 * m + 4) = o := by rw [iq_uz78 (by omega)]; simp [iq_uz]
  have eo' : (iq_uz (iq_uz (iq_uz g 77 20 (((sf_E D m).length : Int) - 1)) 78 (1932 + 6 * m + 4) o) 78 (1932 + 6 * o + 4) m) 78 (1932 + 6 * o + 4) = m := by simp [iq_uz]
  have e20 : (iq_uz (iq_uz (iq_uz g 77 20 (((sf_E D m).length : Int) - 1)) 78 (1932 + 6 * m + 4) o) 78 (1932 + 6 * o + 4) m) 77 20 = ((sf_E D m).length : Int) - 1 := by simp [iq_uz]
  generalize (iq_uz (iq_uz (iq_uz g 77 20 (((sf_E D m).length : Int) - 1)) 78 (1932 + 6 * m + 4) o) 78 (1932 + 6 * o + 4) m) = H at e7 ej e8 em eo' e20 ⊢
  unfold sf_TS sf_MB sf_MT1
  rw [e7 10 (by decide), e7 11 (by decide), e7 12 (by decide), e7 13 (by decide), e7 14 (by decide), e7 21 (by decide), e7 17 (by decide), e7 16 (by decide), ej 83 (by decide) (by decide), ej 84 (by decide) (by decide), e8 1850 (by omega) (by omega), e20]
  refine ⟨⟨fun j y1 y2 y3 => by rw [ej j y1 y2]; exact h1.1 j y1 y2 y3, fun i y1 y2 y3 => by rw [e7 i (by omega)]; exact h1.2.1 i y1 y2 y3, fun i y => by rw [e8 i (by omega) (by omega)]; exact h1.2.2 i y⟩, h2, h3, ⟨by rw [h4.1]; rfl, by rw [z2]; omega, by rw [z3]; exact h4.2.2⟩, fun i i1 i2 => ?_, ?_, z1, h8, h9⟩
  · unfold sf_nx
    by_cases c : 6 * (m : Int) ≤ i
    · rw [if_pos ⟨c, by omega⟩]
      by_cases c4 : i = 6 * m + 4
      · rw [c4, show 6 * (m : Int) + 4 - 6 * m = 4 by omega, show 1932 + (6 * (m : Int) + 4) = 1932 + 6 * m + 4 by omega, em, sf_rwf, if_neg (by decide), if_neg (by decide), if_neg (by decide), if_pos rfl, if_pos k17, hd]
      · have z := h6 (i - 6 * m) (by omega) (by omega)
        rw [sf_rw0, if_neg (by omega)] at z
        rw [← z, e8 _ (by omega) (by omega), show 1932 + 6 * (m : Int) + (i - 6 * m) = 1932 + i by omega]
    · rw [if_neg (by omega)]
      by_cases c4 : i = 6 * o + 4
      · rw [if_pos ⟨k17, by rw [hd]; exact c4⟩, c4, show 1932 + (6 * (o : Int) + 4) = 1932 + 6 * o + 4 by omega, eo']
      · rw [if_neg (by rw [hd]; omega), e8 _ (by omega) (by omega)]
        exact h5 i i1 (by omega)
  · rw [z2]
    rw [eo] at h7
    exact h7.2
theorem sp131 (hS : sf_TS g0 g A n p D m) (hp : 0 ≤ p ∧ p ≤ n) (q1 : (sf_sf A n p (sf_E D m).length (sf_c D m)).1 = 0 → ∀ g' : iq_I, sf_TS g0 g' A n (sf_ep A n p) (sf_nx A n p D m) (m + 1) → Q (some (iq_i 1)) g' l) (q0 : ¬ (sf_sf A n p (sf_E D m).length (sf_c D m)).1 = 0 → ∀ g' : iq_I, sf_TK g0 g' → g' 77 17 = (sf_sf A n p (sf_E D m).length (sf_c D m)).1 → g' 77 16 = (sf_sf A n p (sf_E D m).length (sf_c D m)).2 → Q (some (iq_i 0)) g' l) : iq_P N xs 131 0 [some (iq_r 77), none, none, none, none, none, none] [] g l Q := by
  have kR := sf_kpR A n p
  have hB := hS.2.2.2.2.2.2.1
  have bb := hB
  obtain ⟨b1, b2, b3, b4⟩ := bb
  have d20 : g 77 20 = (sf_E D m).length := hS.2.2.2.1.2.1
  have c21 : g 77 21 = sf_c D m := hS.2.2.2.1.2.2
  have m50 : g 78 1850 = m := hS.2.2.2.1.1
  have fault : ∀ k : Int, sf_hf A n p (sf_E D m).length (sf_c D m) = (if sf_tk A n p = 4 then 1 else k) → ¬ k = 0 → iq_P N xs 100 0 [some (iq_r 77), some (iq_i k)] [] g l (fun r g1 l2 => ∃ z3, r = some (iq_i z3) ∧ ((z3 = 0 ∨ z3 = 1) ∧ Q (some (iq_i z3)) g1 l2)) := by
    intro k e kn
    have ne : ¬ sf_hf A n p (sf_E D m).length (sf_c D m) = 0 := by rw [e]; split <;> omega
    have e0 := sf_sf3 ne
    rw [e0] at q0
    exact sp100 hS.2.2.2.2.2.2.2.1 hS.2.2.1 (fun g' k y1 y2 => ⟨_, rfl, .inl rfl, q0 ne g' (hS.1.fk k) (by rw [y1, e]) y2⟩)
  have bad : ¬ (sf_kp A n p = 5 ∨ (10 ≤ sf_kp A n p ∧ sf_kp A n p ≤ 18)) → sf_hf A n p (sf_E D m).length (sf_c D m) = (if sf_tk A n p = 4 then 1 else 2) := fun h => by
    unfold sf_hf
    by_cases k4 : sf_tk A n p = 4
    · rw [if_pos k4, if_pos k4]
    · rw [if_neg k4, if_neg k4, if_pos h]
  have go : ∀ v4 : Int, v4 = (if sf_opn (sf_kp A n p) = true then 1 else 0) → (sf_kp A n p = 5 ∨ (10 ≤ sf_kp A n p ∧ sf_kp A n p ≤ 18)) → (sf_kp A n p = 17 → ¬ (sf_E D m).length = 0) → (¬ sf_kp A n p = 17 → sf_c D m < 30) → iq_P N xs 131 120 [some (iq_r 77), some (iq_i (sf_kp A n p)), some (iq_i m), some (iq_i (1932 + 6 * m)), some (iq_i v4), some (iq_i 1), none] [] g l Q := by
    intro v4 e4 kk h17 h30
    have t1 := sf_kp1 (A := A) (n := n) (p := p) (by omega)
    have hm : m < 60 := by
      by_cases e : sf_kp A n p = 17
      · have := h17 e; omega
      · have := h30 e; omega
    by_cases o3 : sf_opn (sf_kp A n p) = true ∧ (sf_E D m).length = 3
    · have ok : sf_kp A n p = 12 ∨ sf_kp A n p = 15 ∨ sf_kp A n p = 16 := by have := o3.1; unfold sf_opn at this; simpa using this
      rw [if_pos o3.1] at e4
      subst e4
      refine B131_p120_77 _ _ _ _ _ _ _ ?_
      rw [d20, c21, o3.2]
      have := h30 (by omega)
      refine ⟨by omega, fun h => by omega, fun _ => ⟨by omega, fun h => absurd rfl h, fun _ => fault 7 ?_ (by decide)⟩⟩
      unfold sf_hf
      rw [if_neg (by omega), if_neg (by omega), if_neg (by omega), if_neg (by omega), if_pos ⟨ok, o3.2⟩, if_neg (by omega)]
    have hf : sf_hf A n p (sf_E D m).length (sf_c D m) = 0 := by
      unfold sf_hf
      rw [if_neg (by omega), if_neg (fun z => z kk), if_neg (fun z => h17 z.1 z.2), if_neg (fun z => by have := h30 z.1; omega), if_neg]
      intro z
      exact o3 ⟨by unfold sf_opn; simpa using z.1, z.2⟩
    have fin : ∀ (H : iq_I) (v6 : Int), (sf_kp A n p = 15 → sf_qf A n (sf_te A n p) = 0) → (sf_hn (sf_kp A n p) = true → sf_num A n (sf_np A n p) (sf_l2 (sf_kp A n p)) (sf_h2 A n p) = 0) → sf_TS g0 H A n (sf_sq A n p) (sf_nx A n p D m) (m + 1) → iq_P N xs 131 380 [some (iq_r 77), some (iq_i (sf_kp A n p)), some (iq_i m), some (iq_i (1932 + 6 * m)), some (iq_i v4), some (iq_i 1), some (iq_i v6)] [] H l Q := by
      intro H v6 hw hn hH
      exact sp131_e hH.2.1 hH.2.2.1 hH.2.2.2.2.2.2.2.1 hp hf hw hn hH.1 (fun z g' k t => q1 z g' (hH.ak k t)) q0
    have z170 : ∀ c' : Int, c' = (if sf_kp A n p = 17 then (sf_c D m : Int) else sf_c D m + 1) → iq_P N xs 131 170 [some (iq_r 77), some (iq_i (sf_kp A n p)), some (iq_i m), some (iq_i (1932 + 6 * m)), some (iq_i v4), some (iq_i 1), some (iq_i 1)] [] (iq_uz (iq_uz g 77 21 c') 78 (1932 + 6 * m) (sf_kp A n p)) l Q := by
      intro c' ec
      have z := sp131_z (N := N) (xs := xs) (Q := Q) (l := l) (v2 := m) (v4 := v4) (v5 := 1) (c' := c') hS hp (by omega) hm kR (fun G hT => ?_) 5 1 (iq_uz (iq_uz g 77 21 c') 78 (1932 + 6 * m) (sf_kp A n p)) (by omega) (by omega) (fun j y1 y2 => by rw [sf_uzn _ y2, sf_uzn _ y1]) (fun i y => by rw [sf_uzn _ (by decide)]; simp [iq_uz, y]) (by rw [sf_uzn _ (by decide)]; simp [iq_uz]) (fun i y => by rw [iq_uz78 (by omega), sf_uzn _ (by decide)]) (by simp [iq_uz]) (fun i y1 y2 => by omega)
      · exact z
      refine sp130 hT hp hm kk hf (fun hw hn G2 y => ⟨_, rfl, by omega, fun _ => ⟨by omega, fun n13 => ?_, fun e13 => ⟨by omega, ?_⟩⟩, fun x => by omega⟩) (fun z g' y1 y2 y3 => ⟨_, rfl, by omega, fun x => absurd rfl x, fun _ => q0 z g' y1 y2 y3⟩)
      · have y20 : G2 77 20 = (sf_E D m).length := y.2.2.2.1.2.1
        by_cases e17 : sf_kp A n p = 17
        · have o0 : ¬ sf_opn (sf_kp A n p) = true := by rw [e17]; decide
          rw [if_neg o0] at e4
          rw [if_pos e17] at ec
          subst ec
          cases eo : sf_E D m with
          | nil => exact absurd (by rw [eo]; rfl) (h17 e17)
          | cons o r =>
            have ln : (sf_E D m).length = r.length + 1 := by rw [eo]; rfl
            have om := sf_E_lt D m o (by rw [eo]; exact List.mem_cons_self)
            have e84 : G2 84 (((sf_E D m).length : Int) - 1) = o := by
              rw [show ((sf_E D m).length : Int) - 1 = r.length by omega]
              exact sf_SL_at y.2.2.2.2.2.2.1 [] o r eo
            refine B131_p238_77 _ _ _ _ _ _ _ _ ?_
            rw [y20, e84]
            refine ⟨by omega, fun h => by omega, fun _ => ⟨by omega, fun _ => ⟨by omega, fun _ => ⟨by omega, fun h => absurd e17 h, fun _ => ⟨by omega, by omega, ?_⟩⟩, fun h => absurd e4 h⟩, fun h => by omega⟩⟩
            refine B131_p356_77 _ _ _ _ _ _ _ _ ?_
            rw [show (iq_uz (iq_uz G2 77 20 (((sf_E D m).length : Int) - 1)) 78 (1932 + 6 * m + 4) o) 77 20 = ((sf_E D m).length : Int) - 1 by simp [iq_uz], show (iq_uz (iq_uz G2 77 20 (((sf_E D m).length : Int) - 1)) 78 (1932 + 6 * m + 4) o) 84 = G2 84 by rw [sf_uzn _ (by decide), sf_uzn _ (by decide)], e84]
            exact ⟨by omega, by omega, fin _ _ hw hn (sf_TSe y hB e17 eo)⟩
        · rw [if_neg e17] at ec
          subst ec
          have rr : ∀ f : Int, 0 ≤ f → f < 6 → sf_rw0 A n p D m f = sf_rwf A n p D m f := fun f _ _ => by
            unfold sf_rw0
            by_cases e : f = 4
            · rw [if_pos e, e, sf_rwf, if_neg (by decide), if_neg (by decide), if_neg (by decide), if_pos rfl, if_neg e17, if_neg n13]
            · rw [if_neg e]
          by_cases o : sf_opn (sf_kp A n p) = true
          · rw [if_pos o] at e4
            subst e4
            have l3 : (sf_E D m).length < 3 := by have : ¬ (sf_E D m).length = 3 := fun z => o3 ⟨o, z⟩; omega
            have done := fin _ 0 hw hn (sf_TSn y.push rr hB hf e17 hw (by rw [if_pos o]) (fun _ => by simp [iq_uz]))
            refine B131_p238_77 _ _ _ _ _ _ _ _ ?_
            rw [y20]
            exact ⟨by omega, fun _ => ⟨by omega, fun h => by omega, fun _ => ⟨by omega, by omega, fun _ => done, fun h => absurd h e17⟩⟩, fun _ => ⟨by omega, fun _ => ⟨by omega, fun h => by omega, fun _ => ⟨by omega, by omega, fun _ => done, fun h => absurd h e17⟩⟩, fun h => absurd h n13⟩⟩
          · rw [if_neg o] at e4
            subst e4
            have done := fin _ 0 hw hn (sf_TSn y rr hB hf e17 hw (by rw [if_neg o]) (fun z => absurd z o))
            refine B131_p238_77 _ _ _ _ _ _ _ _ ?_
            rw [y20]
            exact ⟨by omega, fun _ => ⟨by omega, fun _ => ⟨by omega, fun _ => done, fun h => absurd h e17⟩, fun h => absurd rfl h⟩, fun _ => ⟨by omega, fun _ => ⟨by omega, fun _ => ⟨by omega, fun _ => done, fun h => absurd h e17⟩, fun h => absurd rfl h⟩, fun h => absurd h n13⟩⟩
      · have e17 : ¬ sf_kp A n p = 17 := by omega
        have o : ¬ sf_opn (sf_kp A n p) = true := by rw [e13]; decide
        rw [if_neg o] at e4
        rw [if_neg e17] at ec
        subst ec
        have z := sp131_l (N := N) (xs := xs) (Q := Q) (l := l) (g0 := g0) (A := A) (n := n) (x := sf_sq A n p) (c := (sf_c D m : Int) + 1) (W := sf_rw0 A n p D m) (v2 := m) (v4 := v4) (v5 := 1) e4 hm b3 b4 (fun G3 y3 v6 => ?_) (sf_E D m).reverse [] (iq_uz G2 78 (1932 + 6 * m + 4) (-1)) (by simp) ((y.up (f := 4) (v := -1) (by omega)).w (fun f _ _ => rfl))
        · rw [e13]; exact z
        · have w := fin G3 v6 hw hn (sf_TSn y3 (fun f f1 f2 => ?_) hB hf e17 hw (by rw [if_neg o]) (fun z => absurd z o))
          · rw [e13] at w; exact w
          · show (if f = 4 then sf_fh D (sf_E D m) else sf_rw0 A n p D m f) = _
            by_cases e : f = 4
            · rw [if_pos e, e, sf_rwf, if_neg (by decide), if_neg (by decide), if_neg (by decide), if_pos rfl, if_neg e17, if_pos e13]
            · rw [if_neg e, sf_rw0, if_neg e]
    refine B131_p120_77 _ _ _ _ _ _ _ ?_
    rw [d20, c21]
    have n17 : ¬ sf_kp A n p = 17 → iq_P N xs 131 170 [some (iq_r 77), some (iq_i (sf_kp A n p)), some (iq_i m), some (iq_i (1932 + 6 * m)), some (iq_i v4), some (iq_i 1), some (iq_i 1)] [] (iq_uz (iq_uz g 77 21 ((sf_c D m : Int) + 1)) 78 (1932 + 6 * m) (sf_kp A n p)) l Q := fun e => z170 _ (by rw [if_neg e])
    have y17 : sf_kp A n p = 17 → iq_P N xs 131 170 [some (iq_r 77), some (iq_i (sf_kp A n p)), some (iq_i m), some (iq_i (1932 + 6 * m)), some (iq_i v4), some (iq_i 1), some (iq_i 1)] [] (iq_uz (iq_uz g 77 21 ((sf_c D m : Int) + 0)) 78 (1932 + 6 * m) (sf_kp A n p)) l Q := fun e => z170 _ (by rw [if_pos e, Int.add_zero])
    have v4R : 0 ≤ v4 ∧ v4 ≤ 1 := by rw [e4]; split <;> omega
    refine ⟨by omega, fun _ => ⟨by omega, fun e => ⟨by omega, n17 e⟩, fun e => ⟨by omega, y17 e⟩⟩, fun h => ⟨by omega, fun _ => ⟨by omega, fun e => ⟨by omega, n17 e⟩, fun e => ⟨by omega, y17 e⟩⟩, fun h3 => absurd ⟨?_, by omega⟩ o3⟩⟩
    by_cases o : sf_opn (sf_kp A n p) = true
    · exact o
    · rw [if_neg o] at e4; exact absurd e4 h
  have p98 : ∀ v4 : Int, v4 = (if sf_opn (sf_kp A n p) = true then 1 else 0) → (sf_kp A n p = 5 ∨ (10 ≤ sf_kp A n p ∧ sf_kp A n p ≤ 18)) → iq_P N xs 131 67 [some (iq_r 77), some (iq_i (sf_kp A n p)), some (iq_i m), some (iq_i (1932 + 6 * m)), some (iq_i v4), none, none] [] g l Q := by
    intro v4 e4 kk
    have t1 := sf_kp1 (A := A) (n := n) (p := p) (by omega)
    refine B131_p67_77 _ _ _ _ _ _ (B131_p74_77 _ _ _ _ _ _ _ ⟨by omega, fun h => by omega, fun _ => B131_p79_77 _ _ _ _ _ _ _ ⟨by omega, fun e => B131_p98_77 _ _ _ _ _ _ _ ⟨by omega, fun h => absurd h e, fun _ => B131_p104_77 _ _ _ _ _ _ _ ?_⟩, fun e => ?_⟩⟩)
    · rw [c21]
      refine ⟨by omega, fun c => go v4 e4 kk (fun z => absurd z e) (fun _ => by omega), fun c => fault 6 ?_ (by decide)⟩
      unfold sf_hf
      rw [if_neg (by omega), if_neg (fun z => z kk), if_neg (fun z => e z.1), if_pos ⟨e, by omega⟩, if_neg (by omega)]
    · rw [d20]
      refine ⟨by omega, fun d => B131_p98_77 _ _ _ _ _ _ _ ⟨by omega, fun _ => go v4 e4 kk (fun _ => by omega) (fun z => absurd e z), fun h => absurd e h⟩, fun d => B131_p92_77 _ _ _ _ _ _ _ (fault 2 ?_ (by decide))⟩
      unfold sf_hf
      rw [if_neg (by omega), if_neg (fun z => z kk), if_pos ⟨e, by omega⟩, if_neg (by omega)]
  have p71 : ∀ v4 : Int, ¬ (sf_kp A n p = 5 ∨ (10 ≤ sf_kp A n p ∧ sf_kp A n p ≤ 18)) → iq_P N xs 131 71 [some (iq_r 77), some (iq_i (sf_kp A n p)), some (iq_i m), some (iq_i (1932 + 6 * m)), some (iq_i v4), none, none] [] g l Q := by
    intro v4 kk
    exact B131_p71_77 _ _ _ _ _ _ (B131_p74_77 _ _ _ _ _ _ _ ⟨by omega, fun _ => B131_p92_77 _ _ _ _ _ _ _ (fault 2 (bad kk) (by decide)), fun h => absurd rfl h⟩)
  have p43 : sf_opn (sf_kp A n p) = true → iq_P N xs 131 43 [some (iq_r 77), some (iq_i (sf_kp A n p)), some (iq_i m), some (iq_i (1932 + 6 * m)), none, none, none] [] g l Q := by
    intro o
    have ok : sf_kp A n p = 12 ∨ sf_kp A n p = 15 ∨ sf_kp A n p = 16 := by have := o; unfold sf_opn at this; simpa using this
    exact B131_p43_77 _ _ _ _ _ ⟨by omega, fun h => by omega, fun _ => ⟨by omega, fun h => by omega, fun _ => ⟨by omega, fun h => by omega, fun _ => p98 1 (by rw [if_pos o]) (by omega)⟩⟩⟩
  refine B131_77 _ _ (sp99 hS.2.1 hp hS.2.2.1 ⟨_, rfl, ?_⟩)
  rw [m50]
  have no : ¬ sf_kp A n p = 15 → ¬ sf_kp A n p = 16 → ¬ sf_kp A n p = 12 → (0 : Int) = (if sf_opn (sf_kp A n p) = true then 1 else 0) := fun a b c => by unfold sf_opn; simp [a, b, c]
  exact ⟨by omega, fun e => p43 (by rw [e]; decide), fun e15 => ⟨by omega, fun e => p43 (by rw [e]; decide), fun e16 => ⟨by omega, fun e12 => ⟨by omega, fun e5 => p98 0 (no e15 e16 e12) (.inl e5), fun e5 => ⟨by omega, fun h => p71 0 (by omega), fun h => ⟨by omega, fun h2 => p71 0 (by omega), fun h2 => p98 0 (no e15 e16 e12) (by omega)⟩⟩⟩, fun e => p43 (by rw [e]; decide)⟩⟩⟩
end UT
