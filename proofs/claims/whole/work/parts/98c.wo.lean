/-! way and wayAt in the model: the calls. -/
def sf_Wk (g G : iq_I) : Prop := (∀ j, ¬ j = 77 → ¬ (90 ≤ j ∧ j ≤ 93) → G j = g j) ∧ (∀ k, ¬ k = 35 → ¬ k = 36 → G 77 k = g 77 k)
theorem sf_Wk.kk {g G : iq_I} {l : iq_J} (h : sf_Wk g G) : iq_KK g l G l := by
  refine iq_KK.ofg (fun j k hb => ?_)
  by_cases c : j = 77
  · subst c
    exact h.2 k (fun e => by subst e; simp [iq_sx] at hb) (fun e => by subst e; simp [iq_sx] at hb)
  · rw [h.1 j c (fun e => by
      have : j = 90 ∨ j = 91 ∨ j = 92 ∨ j = 93 := by omega
      rcases this with e | e | e | e <;> subst e <;> simp [iq_sx] at hb)]
theorem sp287_g {N : Nat} {xs : Nat → Int32} {Q : iq_T} {l : iq_J} {g0 : iq_I} {S : Int64} (hS : ∀ t, iq_tb S t = true → t < 60) (h7 : sf_wm S ≤ 7) (h78 : ∀ t, 0 ≤ t → t < 60 → g0 78 (20 + t) = if iq_tb S t = true then 1 else 0) (q : ∀ G : iq_I, (∀ j, ¬ j = 77 → ¬ j = 90 → G j = g0 j) → (∀ k, ¬ k = 35 → G 77 k = g0 77 k) → G 77 35 = sf_wm S → (∀ i : Int, 0 ≤ i → i < sf_wm S → G 90 i = sf_W S i) → (2 ≤ sf_wm S → iq_P N xs 287 113 [some (iq_r 77), some (iq_i 1), some (iq_i 1), none] [] (iq_uz (iq_uz (iq_uz G 91 0 0) 91 1 0) 92 1 0) l Q) ∧ (sf_wm S < 2 → iq_P N xs 285 0 [some (iq_r 77), none] [] (iq_uz (iq_uz (iq_uz (iq_uz G 91 0 0) 91 1 0) 92 1 0) 92 (sf_wm S) 0) l (fun r g1 l2 => r = none ∧ iq_P N xs 287 113 [some (iq_r 77), some (iq_i 1), some (iq_i 1), none] [] g1 l2 Q))) (n : Nat) : ∀ (k : Nat) (G : iq_I), k + n = 60 → (∀ j, ¬ j = 77 → ¬ j = 90 → G j = g0 j) → (∀ k, ¬ k = 35 → G 77 k = g0 77 k) → G 77 35 = iq_cn (iq_tb S) k → (∀ t : Nat, t < k → iq_tb S t = true → G 90 (iq_cn (iq_tb S) t) = t) → iq_P N xs 287 23 [some (iq_r 77), some (iq_i k), none, none] [] G l Q := by
  have hw : ((sf_wm S : Nat) : Int) = iq_cn (iq_tb S) 64 := by
    have := iq_cn_nonneg (iq_tb S) 64
    unfold sf_wm
    omega
  induction n with
  | zero =>
    intro k G hn b1 b0 b3 b4
    have e : iq_cn (iq_tb S) k = sf_wm S := by
      rw [hw]
      symm
      refine iq_cn_ext (by omega) (fun i y1 y2 => ?_)
      rcases hb : iq_tb S i with _ | _
      · rfl
      · have := hS i hb; omega
    have z := q G b1 b0 (by rw [b3, e]) (fun i y1 y2 => by
      obtain ⟨t, t1, t2, t3, t4⟩ := sf_Wt (S := S) (i := i) (k := k) y1 (by omega) (by omega)
      rw [t4, ← t3]
      exact b4 t t1 t2)
    refine B287_p23_77 _ _ _ ?_
    rw [b3, e]
    exact ⟨by omega, fun _ => ⟨by omega, fun c => z.1 (by omega), fun c => ⟨by omega, z.2 (by omega)⟩⟩, fun h => by omega⟩
  | succ n ih =>
    intro k G hn b1 b0 b3 b4
    have c0 := iq_cn_nonneg (iq_tb S) k
    have cm := iq_cn_mono (iq_tb S) (a := k + 1) (b := 64) (by omega)
    have nx : iq_cn (iq_tb S) (k + 1) = iq_cn (iq_tb S) k + (if iq_tb S k = true then 1 else 0) := by rw [iq_cn]
    refine B287_p23_77 _ _ _ ⟨by omega, fun h => by omega, fun _ => sp143 (by omega) ⟨_, rfl, ?_⟩⟩
    rw [b1 78 (by decide) (by decide), h78 k (by omega) (by omega), show ((k : Nat) : Int) + 1 = ((k + 1 : Nat) : Int) by omega]
    rcases h : iq_tb S k with _ | _
    · rw [h, if_neg (by decide), Int.add_zero] at nx
      rw [if_neg (by decide)]
      refine ⟨by omega, fun h => absurd rfl h, fun _ => ih (k + 1) G (by omega) b1 b0 (by rw [nx]; exact b3) (fun t t1 t2 => ?_)⟩
      by_cases e : t = k
      · subst e; rw [h] at t2; cases t2
      · exact b4 t (by omega) t2
    · rw [h, if_pos rfl] at nx
      rw [if_pos rfl]
      refine ⟨by omega, fun _ => ⟨by omega, ih (k + 1) _ (by omega) (fun j y1 y2 => ?_) (fun i y => ?_) ?_ (fun t t1 t2 => ?_)⟩, fun h => by omega⟩
      · rw [sf_uzn _ y1, sf_uzn _ y2]; exact b1 j y1 y2
      · rw [← b0 i y]; simp [iq_uz, y]
      · rw [nx, ← b3]; simp [iq_uz]
      · rw [sf_uzn _ (by decide), b3]
        by_cases e : t = k
        · subst e; simp [iq_uz]
        · have lt := iq_cn_lt (f := iq_tb S) (a := t) (b := k) (by omega) t2
          have ne : ¬ iq_cn (iq_tb S) t = iq_cn (iq_tb S) k := by omega
          have := b4 t (by omega) t2
          simp [iq_uz, ne, this]
theorem sp287 {N : Nat} {xs : Nat → Int32} {Q : iq_T} {g : iq_I} {l : iq_J} {S : Int64} {p : Int} {T : Int → Int → Int} (hp : 2 ≤ p ∧ p ≤ 60) (hS : ∀ t, iq_tb S t = true → t < p) (h1 : g 78 1 = p) (h78 : ∀ t, 0 ≤ t → t < 60 → g 78 (20 + t) = if iq_tb S t = true then 1 else 0) (hT : sf_wm S ≤ 7 → sf_RC (sf_wm S) (sf_dd (sf_W S) p) T) (q1 : sf_wm S ≤ 7 → ∀ G : iq_I, sf_Wk g G → G 77 35 = sf_wm S → G 77 36 = (if sf_wm S < 2 then 0 else T 1 0) → (∀ i : Nat, i < sf_wm S → G 93 i = sf_W S (sf_wg (sf_wm S) (sf_dd (sf_W S) p) T i 1 0)) → Q (some (iq_i 1)) G l) (q0 : ¬ sf_wm S ≤ 7 → ∀ G : iq_I, sf_Wk g G → Q (some (iq_i 0)) G l) : iq_P N xs 287 0 [some (iq_r 77), none, none, none] [] g l Q := by
  have hS60 : ∀ t, iq_tb S t = true → t < 60 := fun t ht => by have := hS t ht; omega
  have c0 := iq_cn_nonneg (iq_tb S) 64
  have wm : sf_wm S = (iq_cn (iq_tb S) 64).toNat := rfl
  have k0 : sf_Wk g (iq_uz (iq_uz g 77 35 0) 77 36 (-1)) := ⟨fun j y1 y2 => by rw [sf_uzn _ y1, sf_uzn _ y1], fun k y1 y2 => by simp [iq_uz, y1, y2]⟩
  have g78 : ∀ t, 0 ≤ t → t < 60 → (iq_uz (iq_uz g 77 35 0) 77 36 (-1)) 78 (20 + t) = if iq_tb S t = true then 1 else 0 := fun t y1 y2 => by rw [k0.1 78 (by decide) (by decide)]; exact h78 t y1 y2
  refine B287_77 _ _ (sp144m g78 hS60 ⟨_, rfl, by omega, fun c => ?_, fun c => q0 (by omega) _ k0⟩)
  have h7 : sf_wm S ≤ 7 := by omega
  have q1 := q1 h7
  have rc := hT h7
  have hW := sf_WR hS
  refine sp287_g (g0 := iq_uz (iq_uz g 77 35 0) 77 36 (-1)) hS60 h7 g78 (fun G b1 b2 b3 b4 => ⟨fun m2 => ?_, fun m2 => ?_⟩) 60 0 _ (by omega) (fun _ _ _ => rfl) (fun _ _ => rfl) (by rw [iq_cn]; simp [iq_uz]) (fun t t1 => by omega)
  · have e36 : G 77 36 = -1 := by rw [b2 36 (by decide)]; simp [iq_uz]
    have fin := sf_wex (N := N) (xs := xs) (Q := Q) (l := l) (g0 := iq_uz (iq_uz (iq_uz G 91 0 0) 91 1 0) 92 1 0) (W := sf_W S) (T := T) (p := p) h7 m2 hp hW rc (by rw [sf_uzn _ (by decide), sf_uzn _ (by decide), sf_uzn _ (by decide)]; exact b3) (fun i y1 y2 => by rw [sf_uzn _ (by decide), sf_uzn _ (by decide), sf_uzn _ (by decide)]; exact b4 i y1 y2) (by rw [sf_uzn _ (by decide), sf_uzn _ (by decide), sf_uzn _ (by decide), b1 78 (by decide) (by decide), k0.1 78 (by decide) (by decide)]; exact h1) (sf_wm S - 1) 1 (iq_uz (iq_uz (iq_uz G 91 0 0) 91 1 0) 92 1 0) 1 0 0 none (by omega) (by omega) ⟨fun _ _ _ => rfl, fun _ _ => rfl⟩ (by simp [iq_uz]) (by simp [iq_uz]) (by simp [iq_uz]) (fun i y1 y2 => by
      have : i = 0 := by omega
      subst this
      simp [iq_uz]; omega) ⟨by omega, sf_2m (by omega) h7⟩ (by decide) (sf_wm1 (by omega) h7) (by omega) (by rw [show (iq_uz (iq_uz (iq_uz G 91 0 0) 91 1 0) 92 1 0) 77 36 = G 77 36 by simp [iq_uz], e36]; omega) (fun G' d3' w1 w2 w3 pe => B287_p113_77 _ _ _ _ _ ⟨by omega, fun _ => q1 G' ⟨fun j y1 y2 => ?_, fun k y1 y2 => ?_⟩ ?_ ?_ (fun i hi => ?_), fun h => by omega⟩)
    · exact fin
    · rw [w1.1 j y1 (by omega), sf_uzn _ (by omega), sf_uzn _ (by omega), sf_uzn _ (by omega), b1 j y1 (by omega)]
      exact k0.1 j y1 y2
    · rw [w1.2 k y2, sf_uzn _ (by decide), sf_uzn _ (by decide), sf_uzn _ (by decide), b2 k y1]
      exact k0.2 k y1 y2
    · rw [w1.2 35 (by decide), sf_uzn _ (by decide), sf_uzn _ (by decide), sf_uzn _ (by decide)]; exact b3
    · rw [if_neg (by omega)]
      rcases pe with ⟨z1, z2, z3⟩ | ⟨z1, z2, z3⟩
      · refine absurd (.inl ?_) z1
        rw [← e36]; simp [iq_uz]
      · rw [z2, Int.zero_add]
    · rcases pe with ⟨z1, z2, z3⟩ | ⟨z1, z2, z3⟩
      · refine absurd (.inl ?_) z1
        rw [← e36]; simp [iq_uz]
      · rw [z3 i hi]
        by_cases i0 : i = 0
        · subst i0
          rw [if_pos (by omega), sf_wg]
          simp [iq_uz]
        · rw [if_neg (by omega), show i - 1 + 1 = i by omega]
  · have e36 : G 77 36 = -1 := by rw [b2 36 (by decide)]; simp [iq_uz]
    have k2 : sf_WM G (iq_uz (iq_uz (iq_uz (iq_uz G 91 0 0) 91 1 0) 92 1 0) 92 (sf_wm S) 0) := ⟨fun j y1 y2 => by rw [sf_uzn _ (by omega), sf_uzn _ (by omega), sf_uzn _ (by omega), sf_uzn _ (by omega)], fun k y => by simp [iq_uz]⟩
    refine sp285 (g0 := G) (m := sf_wm S) (W := sf_W S) (far := 0) h7 k2 b3 b4 (fun i y1 y2 => ?_) (by simp [iq_uz]) (by omega) (by rw [show (iq_uz (iq_uz (iq_uz (iq_uz G 91 0 0) 91 1 0) 92 1 0) 92 (sf_wm S) 0) 77 36 = G 77 36 by simp [iq_uz], e36]; omega) (fun G' w1 w2 pe => ⟨rfl, B287_p113_77 _ _ _ _ _ ?_⟩)
    · have : i = 0 := by omega
      subst this
      simp [iq_uz]; omega
    · have e35 : G' 77 35 = sf_wm S := by rw [w1.2 35 (by decide)]; exact b3
      rw [e35]
      refine ⟨by omega, fun h => by omega, fun _ => ⟨by omega, fun _ => q1 G' ⟨fun j y1 y2 => ?_, fun k y1 y2 => ?_⟩ e35 ?_ (fun i hi => ?_), fun h => by omega⟩⟩
      · rw [w1.1 j y1 (by omega), b1 j y1 (by omega)]; exact k0.1 j y1 y2
      · rw [w1.2 k y2, b2 k y1]; exact k0.2 k y1 y2
      · rw [if_pos m2]
        rcases pe with ⟨z1, z2, z3⟩ | ⟨z1, z2, z3⟩
        · refine absurd (.inl ?_) z1
          rw [← e36]; simp [iq_uz]
        · exact z2
      · rcases pe with ⟨z1, z2, z3⟩ | ⟨z1, z2, z3⟩
        · refine absurd (.inl ?_) z1
          rw [← e36]; simp [iq_uz]
        · have i0 : i = 0 := by omega
          subst i0
          rw [z3 0 hi, sf_wg]
          simp [iq_uz]
theorem mWay {N : Nat} {xs : Nat → Int32} {Q : iq_T} {g : iq_I} {l : iq_J} {T : Int → Int → Int} (hs : iq_SR g l 23 24 25 0) (hT : sf_wm (l 23 3) ≤ 7 → sf_RC (sf_wm (l 23 3)) (sf_dd (sf_W (l 23 3)) (g 24 1)) T) (q1 : sf_wm (l 23 3) ≤ 7 → ∀ g' : iq_I, iq_KK g l g' l → g' 0 0 = g 0 0 → g' 77 1 = 0 → Q (some (iq_i (if sf_wm (l 23 3) < 2 then 0 else T 1 0))) g' l) (q0 : ¬ sf_wm (l 23 3) ≤ 7 → ∀ g' : iq_I, iq_KK g l g' l → g' 0 0 = g 0 0 → g' 77 1 = 7 → Q (some (iq_i (-1))) g' l) : iq_P N xs 288 0 [some (iq_r 77)] [] g l Q := by
  have hp1 := hs.1.2.1
  refine B288_77 _ _ (sp287 (T := T) hp1 hs.2.2.2.1 (hs.p78 1 (by omega) (by omega)) hs.snd hT (fun c G k a1 a2 a3 => ⟨_, rfl, by omega, fun h => by omega, fun _ => sp115 ⟨_, rfl, ?_⟩⟩) (fun c G k => ⟨_, rfl, by omega, fun _ => sp98 ⟨_, rfl, ?_⟩, fun h => absurd rfl h⟩))
  · rw [a2]
    exact q1 c _ (k.kk.uz iq_sx771) (by rw [sf_uzn _ (by decide), k.1 0 (by decide) (by decide)]) (by simp [iq_uz])
  · exact q0 c _ (k.kk.uz iq_sx771) (by rw [sf_uzn _ (by decide), k.1 0 (by decide) (by decide)]) (by simp [iq_uz])
theorem mWayAt {N : Nat} {xs : Nat → Int32} {Q : iq_T} {g : iq_I} {l : iq_J} {T : Int → Int → Int} {k : Int} (hs : iq_SR g l 23 24 25 0) (hk : -2147483648 ≤ k ∧ k ≤ 2147483647) (hT : sf_wm (l 23 3) ≤ 7 → sf_RC (sf_wm (l 23 3)) (sf_dd (sf_W (l 23 3)) (g 24 1)) T) (q1 : sf_wm (l 23 3) ≤ 7 → ∀ g' : iq_I, iq_KK g l g' l → g' 0 0 = g 0 0 → g' 77 1 = (aWayAt (l 23 3) (g 24 1) T k).2 → Q (some (iq_i (aWayAt (l 23 3) (g 24 1) T k).1)) g' l) (q0 : ¬ sf_wm (l 23 3) ≤ 7 → ∀ g' : iq_I, iq_KK g l g' l → g' 0 0 = g 0 0 → g' 77 1 = 7 → Q (some (iq_i (-1))) g' l) : iq_P N xs 291 0 [some (iq_r 77), some (iq_i k)] [] g l Q := by
  have hp1 := hs.1.2.1
  unfold aWayAt at q1
  refine B291_77 _ _ _ (sp287 (T := T) hp1 hs.2.2.2.1 (hs.p78 1 (by omega) (by omega)) hs.snd hT (fun c G w a1 a2 a3 => ⟨_, rfl, by omega, fun _ => ?_, fun h => by omega⟩) (fun c G w => ⟨_, rfl, by omega, fun h => absurd rfl h, fun _ => sp98 ⟨_, rfl, ?_⟩⟩))
  · have q1 := q1 c
    have no : ¬ (0 ≤ k ∧ k < sf_wm (l 23 3)) → iq_P N xs 98 0 [some (iq_r 77), some (iq_i 6)] [] G l (fun r g4 l5 => ∃ z6, r = some (iq_i z6) ∧ (Q (some (iq_i z6)) g4 l5)) := fun d => by
      rw [if_neg d] at q1
      exact sp98 ⟨_, rfl, q1 _ (w.kk.uz iq_sx771) (by rw [sf_uzn _ (by decide), w.1 0 (by decide) (by decide)]) (by simp [iq_uz])⟩
    rw [a1]
    refine ⟨by omega, fun d => no (by omega), fun d1 => ⟨by omega, fun d2 => ⟨by omega, sp115 ⟨_, rfl, ?_⟩⟩, fun d => no (by omega)⟩⟩
    have e := a3 k.toNat (by omega)
    rw [show ((k.toNat : Nat) : Int) = k by omega] at e
    rw [if_pos ⟨d1, d2⟩, ← e] at q1
    exact q1 _ (w.kk.uz iq_sx771) (by rw [sf_uzn _ (by decide), w.1 0 (by decide) (by decide)]) (by simp [iq_uz])
  · exact q0 c _ (w.kk.uz iq_sx771) (by rw [sf_uzn _ (by decide), w.1 0 (by decide) (by decide)]) (by simp [iq_uz])
