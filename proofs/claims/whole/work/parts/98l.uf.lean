/-! scale in the model: parts one by one. -/
section UF
variable {N : Nat} {xs : Nat → Int32} {Q : iq_T} {g0 : iq_I} {l : iq_J} {A : Int → Int} {n : Int}
theorem sp103_p {P : Int → Int} {tl : Int64} (hP : 2 ≤ P 1 ∧ P 1 ≤ 60) (f : Nat) : ∀ (g : iq_I) (p : Int) (S : Int64), sf_NS g0 g A n p P S tl → (0 ≤ p ∧ p ≤ n) → n - p < f → (∀ (g' : iq_I) (p' : Int) (S' : Int64) (f' : Nat), sf_NS g0 g' A n p' P S' tl → (p ≤ p' ∧ p' ≤ n) → ¬ sf_tk A n p' = 2 → n - p' < f' → sf_snd A n f p (P 1) S = sf_snd A n f' p' (P 1) S' → Q (some (iq_i 1)) g' l) → (¬ (sf_snd A n f p (P 1) S).1 = 0 → ∀ g' : iq_I, sf_NK g0 g' → (∀ k, 0 ≤ k → k < 9 → g' 78 (1840 + k) = P k) → g' 77 17 = (sf_snd A n f p (P 1) S).1 → g' 77 16 = (sf_snd A n f p (P 1) S).2.1 → Q (some (iq_i 0)) g' l) → iq_P N xs 103 4 [some (iq_r 77), some (iq_i 2292)] [] g l Q := by
  induction f with
  | zero => intro g p S _ hp hf; omega
  | succ f ih =>
    intro g p S hN hp hf qE qF
    obtain ⟨h1, h2, h3, h4, h5, h6, h7⟩ := id hN
    have m2 := sf_mkv A n p (k := 2) (by omega)
    have e2 : sf_mkd 2 = 3 := rfl
    rw [e2] at m2
    have mR : 0 ≤ sf_mkd (sf_tk A n p) ∧ sf_mkd (sf_tk A n p) ≤ 4 := by unfold sf_mkd; have := sf_tkR A n p; omega
    have e41 : g 78 1841 = P 1 := h4.1 1 (by omega) (by omega)
    have eR := sf_teR (A := A) hp
    have sR := sf_tsR (A := A) hp
    refine B103_p4_77 _ _ _ ?_
    rw [h3.1, e41]
    refine ⟨by omega, fun c => ?_, fun c => ?_⟩
    · exact qE g p S (f + 1) hN (by omega) (fun z => c (m2.mpr z)) hf rfl
    · have k2 := m2.mp c
      have vR := sf_tvR (sf_MBA h2) hp (.inl k2)
      have te1 := eR.2.2 (by omega)
      have nv : sf_num A n p 0 (P 1 - 1) = if sf_tv A n p < P 1 then 0 else 4 := by
        unfold sf_num
        rw [if_neg (by omega), if_neg (fun z => z k2)]
        by_cases d : sf_tv A n p < P 1
        · rw [if_pos d, if_pos (by omega)]
        · rw [if_neg d, if_neg (by omega)]
      rw [sf_snd, if_neg (by omega), if_neg (by omega), if_neg (fun z => z k2)] at qF
      rw [h3.2.2.2 (.inl k2)]
      refine ⟨by omega, fun d => ?_, fun d => ⟨by omega, ?_⟩⟩
      · rw [if_neg (by omega)] at nv
        refine sp102 h2 hp h3 h6 (by omega) (by omega) (by omega) (fun z => by omega) (fun z g1 b1 b2 b3 => ⟨_, rfl, by omega, fun h => absurd rfl h, fun _ => ?_⟩)
        rw [if_pos (by omega)] at qF
        exact qF (by simp) g1 (h1.fk b1) (fun k y1 y2 => by rw [b1.1 78 (by decide)]; exact h4.1 k y1 y2) (by rw [b2, nv]) b3
      · have es := h4.2 (sf_tv A n p) (by omega) (by omega)
        rw [es]
        rcases hb : iq_tb S (sf_tv A n p) with _ | _
        · rw [if_neg (show ¬ (false = true) by decide)]
          rw [if_pos d] at nv
          rw [if_neg (fun z => z d), hb, if_neg (by decide)] at qF
          refine ⟨by omega, fun _ => ?_, fun h => by omega⟩
          refine sp102 h2 hp h3 h6 (by omega) (by omega) (by omega) (fun z g1 b1 b2 => ⟨_, rfl, by omega, fun _ => ?_, fun h => by omega⟩) (fun z => absurd nv z)
          have e92 : g1 78 2292 = sf_tv A n p := by rw [b1.1 78 (by decide)]; simp [iq_uz]
          rw [e92]
          refine ⟨by omega, by omega, B103_p87_77 _ _ _ ?_⟩
          have N1 : sf_NS g0 (iq_uz g1 78 (1860 + sf_tv A n p) 1) A n (sf_te A n p) P (S ||| iq_of (sf_tv A n p)) tl := by
            have g178 : ∀ i : Int, ¬ i = 2292 → g1 78 i = g 78 i := fun i y => by rw [b1.1 78 (by decide)]; exact iq_uz78 y
            refine ⟨⟨fun j y1 y2 => ?_, fun i y1 y2 => ?_, fun i y1 y2 y3 => ?_⟩, ⟨?_, h2.2.1, fun i y1 y2 => ?_⟩, ?_, ⟨fun k y1 y2 => ?_, fun u y1 y2 => ?_⟩, ?_, ?_, ?_⟩
            · rw [sf_uzn _ y2, b1.1 j y1, sf_uzn _ y2]; exact h1.1 j y1 y2
            · rw [sf_uzn _ (by decide), b1.2 i y1, sf_uzn _ (by decide)]; exact h1.2.1 i y1 y2
            · rw [iq_uz78 (by omega), g178 i y3]; exact h1.2.2 i y1 y2 y3
            · rw [sf_uzn _ (by decide), b1.2 10 (by omega), sf_uzn _ (by decide)]; exact h2.1
            · rw [sf_uzn _ (by decide), b1.1 83 (by decide), sf_uzn _ (by decide)]; exact h2.2.2 i y1 y2
            · unfold sf_MT1; rw [sf_uzn _ (by decide)]; exact b2
            · rw [iq_uz78 (by omega), g178 _ (by omega)]; exact h4.1 k y1 y2
            · rw [iq_tb_or, iq_tbof]
              by_cases c : u = sf_tv A n p
              · rw [c]; simp [iq_uz]; omega
              · rw [iq_uz78 (by omega), g178 _ (by omega), h4.2 u y1 y2]; simp [c]
            · rw [sf_uzn _ (by decide), b1.2 18 (by omega), sf_uzn _ (by decide)]; exact h5
            · rw [sf_uzn _ (by decide), b1.2 17 (by omega), sf_uzn _ (by decide)]; exact h6
            · rw [sf_uzn _ (by decide), b1.2 16 (by omega), sf_uzn _ (by decide)]; exact h7
          refine ih _ (sf_te A n p) _ N1 (by omega) (by omega) (fun g' p' S' f' w1 w2 w3 w4 w5 => qE g' p' S' f' w1 (by omega) w3 w4 ?_) qF
          rw [sf_snd, if_neg (by omega), if_neg (by omega), if_neg (fun z => z k2), if_neg (fun z => z d), hb, if_neg (by decide)]
          exact w5
        · rw [if_pos rfl]
          rw [if_neg (fun z => z d), hb, if_pos rfl] at qF
          refine ⟨by omega, fun h => absurd rfl h, fun _ => sp100 h6 h3 (fun g1 b1 b2 b3 => ⟨_, rfl, by omega, ?_⟩)⟩
          rw [if_neg (by omega)] at b2
          exact qF (by simp) g1 (h1.fk b1) (fun k y1 y2 => by rw [b1.1 78 (by decide)]; exact h4.1 k y1 y2) b2 b3
theorem sp108 {g : iq_I} {p : Int} {P : Int → Int} {S tl : Int64} {f : Nat} (hN : sf_NS g0 g A n p P S tl) (hp : 0 ≤ p ∧ p ≤ n) (k0 : ¬ sf_tk A n p = 0) (hf : n - p < f + 1) (hP : sf_rv P) (hS : ∀ t, iq_tb S t = true → t < P 1) (hT : iq_tb tl 9 = false → ∀ t, iq_tb S t = false) (q1 : ∀ (g' : iq_I) (p' : Int) (P' : Int → Int) (S' tl' : Int64), sf_NS g0 g' A n p' P' S' tl' → (p < p' ∧ p' ≤ n) → sf_rv P' → (∀ t, iq_tb S' t = true → t < P' 1) → (iq_tb tl' 9 = false → ∀ t, iq_tb S' t = false) → sf_prs A n (f + 1) p P S tl = sf_prs A n f p' P' S' tl' → Q (some (iq_i 1)) g' l) (q0 : ¬ (sf_prs A n (f + 1) p P S tl).1 = 0 → ∀ (g' : iq_I) (P' : Int → Int), sf_NK g0 g' → sf_rv P' → (∀ k, 0 ≤ k → k < 9 → g' 78 (1840 + k) = P' k) → g' 77 17 = (sf_prs A n (f + 1) p P S tl).1 → g' 77 16 = (sf_prs A n (f + 1) p P S tl).2.1 → Q (some (iq_i 0)) g' l) : iq_P N xs 108 0 [some (iq_r 77), none, none] [] g l Q := by
  obtain ⟨h1, h2, h3, h4, h5, h6, h7⟩ := id hN
  have hA := sf_MBA h2
  have hn := h2.2.1
  have kR := sf_kpR A n p
  have eR := sf_teR (A := A) hp
  have sR := sf_tsR (A := A) hp
  have te1 := eR.2.2 k0
  rw [sf_prs] at q1 q0
  have f2 : ∀ g1 : iq_I, sf_FK g g1 → (∀ k, 0 ≤ k → k < 9 → g1 78 (1840 + k) = P k) := fun g1 b1 k y1 y2 => by rw [b1.1 78 (by decide)]; exact h4.1 k y1 y2
  refine B108_77 _ _ (sp99 h2 hp h3 ⟨_, rfl, ?_⟩)
  by_cases ck : 0 ≤ sf_kp A n p ∧ sf_kp A n p ≤ 9
  · have k4 : ¬ sf_tk A n p = 4 := fun z => by unfold sf_kp at ck; rw [if_neg (by omega)] at ck; omega
    rw [if_neg k4, if_neg k0, if_neg (fun z => z ck)] at q1 q0
    -- told already?
    have late : sf_late tl (sf_kp A n p) = true → iq_P N xs 100 0 [some (iq_r 77), some (iq_i 5)] [] g l (fun r g7 l8 => ∃ z9, r = some (iq_i z9) ∧ ((z9 = 0 ∨ z9 = 1) ∧ Q (some (iq_i z9)) g7 l8)) := fun cl => by
      rw [if_pos cl] at q0
      refine sp100 h6 h3 (fun g1 b1 b2 b3 => ⟨_, rfl, by omega, q0 (by simp) g1 P (h1.fk b1) hP (f2 g1 b1) ?_ b3⟩)
      rw [b2, if_neg k4]
    have go : sf_late tl (sf_kp A n p) = false → iq_P N xs 108 77 [some (iq_r 77), some (iq_i (sf_kp A n p)), some (iq_i 932)] [] (iq_uz g 77 18 (iq_or (g 77 18) (iq_shl 1 (sf_kp A n p)))) l Q := fun cl => by
      rw [if_neg (by rw [cl]; decide)] at q1 q0
      have N1 : sf_NS g0 (iq_uz g 77 18 (iq_or (g 77 18) (iq_shl 1 (sf_kp A n p)))) A n p P S (tl ||| iq_of (sf_kp A n p)) := by
        have g7 : ∀ i, ¬ i = 18 → (iq_uz g 77 18 (iq_or (g 77 18) (iq_shl 1 (sf_kp A n p)))) 77 i = g 77 i := fun i y => by simp [iq_uz, y]
        refine ⟨⟨fun j y1 y2 => by rw [sf_uzn _ y1]; exact h1.1 j y1 y2, fun i y1 y2 => by rw [g7 i (by omega)]; exact h1.2.1 i y1 y2, fun i y1 y2 y3 => by rw [sf_uzn _ (by decide)]; exact h1.2.2 i y1 y2 y3⟩, ⟨by rw [g7 10 (by decide)]; exact h2.1, h2.2.1, by rw [sf_uzn _ (by decide)]; exact h2.2.2⟩, ?_, h4.fk (sf_uzn _ (by decide) _ _), ?_, by rw [g7 17 (by decide)]; exact h6, by rw [g7 16 (by decide)]; exact h7⟩
        · unfold sf_MT1
          rw [g7 11 (by decide), g7 12 (by decide), g7 13 (by decide), g7 14 (by decide)]
          exact h3
        · rw [show (iq_uz g 77 18 (iq_or (g 77 18) (iq_shl 1 (sf_kp A n p)))) 77 18 = iq_or (g 77 18) (iq_shl 1 (sf_kp A n p)) by simp [iq_uz]]
          exact sf_tlo h5 ck
      refine B108_p77_77 _ _ _ _ (sp96 (p := sf_te A n p) N1.2.1 (N1.2.2.1.2.2.1 k4) (by omega) (fun g2 b1 b2 => ⟨rfl, by omega, fun c9 => ?_, fun c9 => ?_⟩))
      · have N2 := N1.ak b1 b2
        rw [if_neg c9] at q1 q0
        have lo := sf_lhR (k := sf_kp A n p) (p := P 1) (by omega) hP.2.1
        refine B108_p109_77 _ _ _ _ (sp106 (by omega) ⟨_, rfl, ?_⟩)
        rw [show g2 78 1841 = P 1 from N2.2.2.2.1.1 1 (by omega) (by omega)]
        refine sp107 (by omega) ⟨_, rfl, ?_⟩
        refine sp102 N2.2.1 (by omega) N2.2.2.1 N2.2.2.2.2.2.1 (by omega) (by omega) (by omega) (fun cn g3 b3 b4 => ⟨_, rfl, by omega, fun h => by omega, fun _ => B108_p137_77 _ _ _ _ ?_⟩) (fun cn g3 b3 b4 b5 => ⟨_, rfl, by omega, fun _ => B108_p150_77 _ _ _ _ ?_, fun h => absurd rfl h⟩)
        · rw [if_pos cn] at q1 q0
          have tk2 : sf_tk A n (sf_te A n p) = 2 := by
            unfold sf_num at cn
            by_cases d4 : sf_tk A n (sf_te A n p) = 4
            · rw [if_pos d4] at cn; omega
            rw [if_neg d4] at cn
            by_cases d2 : sf_tk A n (sf_te A n p) = 2
            · exact d2
            · rw [if_pos d2] at cn; omega
          have vb : sf_lo (sf_kp A n p) ≤ sf_tv A n (sf_te A n p) ∧ sf_tv A n (sf_te A n p) ≤ sf_hi (sf_kp A n p) (P 1) := by
            unfold sf_num at cn
            rw [if_neg (by omega), if_neg (fun z => z tk2)] at cn
            by_cases d : sf_lo (sf_kp A n p) ≤ sf_tv A n (sf_te A n p) ∧ sf_tv A n (sf_te A n p) ≤ sf_hi (sf_kp A n p) (P 1)
            · exact d
            · rw [if_neg d] at cn; omega
          have e1 := sf_teR (A := A) (n := n) (p := sf_te A n p) (by omega)
          have s1 := sf_tsR (A := A) (n := n) (p := sf_te A n p) (by omega)
          have e2 := sf_teR (A := A) (n := n) (p := sf_te A n (sf_te A n p)) (by omega)
          have s2 := sf_tsR (A := A) (n := n) (p := sf_te A n (sf_te A n p)) (by omega)
          have N3 : sf_NS g0 g3 A n (sf_te A n (sf_te A n p)) (sf_pup P (sf_kp A n p) (sf_tv A n (sf_te A n p))) S (tl ||| iq_of (sf_kp A n p)) := by
            obtain ⟨n1, n2, n3, n4, n5, n6, n7⟩ := N2
            refine ⟨⟨fun j y1 y2 => ?_, fun i y1 y2 => ?_, fun i y1 y2 y3 => ?_⟩, ⟨?_, n2.2.1, fun i y1 y2 => ?_⟩, b4, ⟨fun k y1 y2 => ?_, fun u y1 y2 => ?_⟩, ?_, ?_, ?_⟩
            · rw [b3.1 j y1, sf_uzn _ y2]; exact n1.1 j y1 y2
            · rw [b3.2 i y1, sf_uzn _ (by decide)]; exact n1.2.1 i y1 y2
            · rw [b3.1 78 (by decide), iq_uz78 (by omega)]; exact n1.2.2 i y1 y2 y3
            · rw [b3.2 10 (by omega), sf_uzn _ (by decide)]; exact n2.1
            · rw [b3.1 83 (by decide), sf_uzn _ (by decide)]; exact n2.2.2 i y1 y2
            · rw [b3.1 78 (by decide)]
              unfold sf_pup
              by_cases e : k = sf_kp A n p
              · rw [if_pos e, e]; simp [iq_uz]
              · rw [if_neg e, iq_uz78 (by omega)]; exact n4.1 k y1 y2
            · rw [b3.1 78 (by decide), iq_uz78 (by omega)]; exact n4.2 u y1 y2
            · rw [b3.2 18 (by omega), sf_uzn _ (by decide)]; exact n5
            · rw [b3.2 17 (by omega), sf_uzn _ (by decide)]; exact n6
            · rw [b3.2 16 (by omega), sf_uzn _ (by decide)]; exact n7
          refine sp105 N3.2.1 (by omega) N3.2.2.1 N3.2.2.2.2.2.1 (fun cs g4 b5 b6 => ⟨_, rfl, by omega, fun h => by omega, fun _ => ?_⟩) (fun cs g4 b5 b6 b7 => ⟨_, rfl, by omega, fun _ => B108_p150_77 _ _ _ _ ?_, fun h => absurd rfl h⟩)
          · rw [if_pos cs] at q1
            refine q1 g4 _ _ _ _ (N3.ak b5 b6) (by omega) (sf_rvp hP (by omega) vb) (fun u hu => ?_) (fun w u => ?_) rfl
            · by_cases k1 : sf_kp A n p = 1
              · have t9 : iq_tb tl 9 = false := by
                  rcases hb : iq_tb tl 9 with _ | _
                  · rfl
                  · rw [k1] at cl; unfold sf_late at cl; rw [if_pos rfl, hb] at cl; simp at cl
                rw [hT t9 u] at hu; cases hu
              · unfold sf_pup
                rw [if_neg (fun z => k1 z.symm)]
                exact hS u hu
            · rw [iq_tb_or, Bool.or_eq_false_iff] at w
              exact hT w.1 u
          · rw [if_neg cs] at q0
            exact q0 cs g4 _ (N3.1.fk b5) (sf_rvp hP (by omega) vb) (fun k y1 y2 => by rw [b5.1 78 (by decide)]; exact N3.2.2.2.1.1 k y1 y2) b6 b7
        · rw [if_neg cn] at q0
          exact q0 cn g3 P (N2.1.fk b3) hP (fun k y1 y2 => by rw [b3.1 78 (by decide)]; exact N2.2.2.2.1.1 k y1 y2) b4 b5
      · have N2 := N1.ak b1 b2
        rw [if_pos c9] at q1 q0
        refine B108_p87_77 _ _ _ _ (B103_77 _ _ (sp103_p hP.2.1 901 g2 (sf_te A n p) S N2 (by omega) (by omega) (fun g3 p' S' f' w1 w2 w3 w4 w5 => ⟨_, rfl, by omega, fun h => by omega, fun _ => ?_⟩) (fun cs g3 w1 w2 w3 w4 => ⟨_, rfl, by omega, fun _ => B108_p107_77 _ _ _ _ ?_, fun h => absurd rfl h⟩)))
        · have e2 := sf_teR (A := A) (n := n) (p := p') (by omega)
          have s2 := sf_tsR (A := A) (n := n) (p := p') (by omega)
          have sv : (sf_sem A n p' = 0 → sf_snd A n 901 (sf_te A n p) (P 1) S = (0, 0, sf_te A n p', S')) ∧ (¬ sf_sem A n p' = 0 → (sf_snd A n 901 (sf_te A n p) (P 1) S).1 = sf_sem A n p' ∧ (sf_snd A n 901 (sf_te A n p) (P 1) S).2.1 = sf_ts A n p') := by
            rw [w5]
            rcases f' with _ | f'
            · omega
            · rw [sf_snd]
              unfold sf_sem
              by_cases d4 : sf_tk A n p' = 4
              · rw [if_pos d4, if_pos d4]
                exact ⟨fun z => by omega, fun _ => ⟨rfl, rfl⟩⟩
              · rw [if_neg d4, if_neg d4]
                by_cases d3 : sf_tk A n p' = 3 ∧ sf_tv A n p' = 59
                · rw [if_pos d3, if_pos d3]
                  exact ⟨fun _ => rfl, fun z => absurd rfl z⟩
                · rw [if_neg d3, if_neg d3, if_pos w3]
                  exact ⟨fun z => by omega, fun _ => ⟨rfl, rfl⟩⟩
          refine sp105 w1.2.1 (by omega) w1.2.2.1 w1.2.2.2.2.2.1 (fun cs g4 b5 b6 => ⟨_, rfl, by omega, fun h => by omega, fun _ => B108_p103_77 _ _ _ _ ?_⟩) (fun cs g4 b5 b6 b7 => ⟨_, rfl, by omega, fun _ => B108_p107_77 _ _ _ _ ?_, fun h => absurd rfl h⟩)
          · have sk3 : ¬ sf_tk A n p' = 0 := by
              unfold sf_sem at cs
              intro z
              rw [if_neg (by omega), if_neg (by omega)] at cs
              omega
            have te2 := e2.2.2 sk3
            have ev := sv.1 cs
            rw [ev, if_pos rfl] at q1
            have v := sf_sndV hA 901 (sf_te A n p) S (by omega) hS (by rw [ev])
            rw [ev] at v
            rw [c9] at w1
            exact q1 g4 (sf_te A n p') P S' (tl ||| iq_of 9) (w1.ak b5 b6) (by omega) hP v.1 (fun w => by rw [iq_tb_or, iq_tbof] at w; simp at w) rfl
          · have ev := sv.2 cs
            rw [if_neg (by rw [ev.1]; exact cs)] at q0
            exact q0 (show ¬ (sf_snd A n 901 (sf_te A n p) (P 1) S).1 = 0 by rw [ev.1]; exact cs) g4 P (w1.1.fk b5) hP (fun k y1 y2 => by rw [b5.1 78 (by decide)]; exact w1.2.2.2.1.1 k y1 y2) (by rw [b6]; exact ev.1.symm) (by rw [b7]; exact ev.2.symm)
        · rw [if_neg cs] at q0
          exact q0 cs g3 P w1 hP w2 w3 w4
    refine ⟨by omega, fun h => by omega, fun _ => ⟨by omega, fun _ => ⟨by omega, fun c9 => ⟨by omega, fun _ => go ?_, fun h => by omega⟩, fun c9 => ?_⟩, fun h => by omega⟩⟩
    · unfold sf_late; rw [if_neg (by omega), c9]; simp
    · refine sp101t h5 (by omega) (fun b => ⟨_, rfl, by omega, fun _ => late ?_, fun h => by omega⟩) (fun b => ⟨_, rfl, by omega, fun h => absurd rfl h, fun _ => ⟨by omega, fun c1 => go ?_, fun c1 => ?_⟩⟩)
      · unfold sf_late
        by_cases c1 : sf_kp A n p = 1
        · rw [if_pos c1]; rw [c1] at b; rw [b]; simp
        · rw [if_neg c1, b]; simp [c9]
      · unfold sf_late; rw [if_neg c1, b]; simp
      · have z := sf_932 h5
        rw [c1] at b
        refine ⟨by omega, fun d => go ?_, fun d => late ?_⟩
        · have := z.2.mp d
          unfold sf_late
          rw [if_pos c1, b]
          simp only [Bool.or_eq_false_iff] at this ⊢
          exact ⟨⟨⟨⟨⟨trivial, this.1.1.1.1⟩, this.1.1.1.2⟩, this.1.1.2⟩, this.1.2⟩, this.2⟩
        · unfold sf_late
          rw [if_pos c1, b]
          rcases hb : (iq_tb tl 2 || iq_tb tl 5 || iq_tb tl 7 || iq_tb tl 8 || iq_tb tl 9) with _ | _
          · exact absurd (z.2.mpr hb) d
          · simpa using hb
  · have fin : iq_P N xs 100 0 [some (iq_r 77), some (iq_i 2)] [] g l (fun r g4 l5 => ∃ z6, r = some (iq_i z6) ∧ ((z6 = 0 ∨ z6 = 1) ∧ Q (some (iq_i z6)) g4 l5)) := by
      refine sp100 h6 h3 (fun g1 b1 b2 b3 => ⟨_, rfl, by omega, ?_⟩)
      by_cases k4 : sf_tk A n p = 4
      · rw [if_pos k4] at q0 b2
        exact q0 (by simp) g1 P (h1.fk b1) hP (f2 g1 b1) b2 b3
      · rw [if_neg k4, if_neg k0, if_pos ck] at q0
        rw [if_neg k4] at b2
        exact q0 (by simp) g1 P (h1.fk b1) hP (f2 g1 b1) b2 b3
    exact ⟨by omega, fun _ => fin, fun c => ⟨by omega, fun d => by omega, fun _ => fin⟩⟩
end UF
