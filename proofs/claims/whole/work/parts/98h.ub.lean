/-! scale, its text: what it tells, as a plain function; the class. -/
def sf_num (A : Int → Int) (n p lo hi : Int) : Int := if sf_tk A n p = 4 then 1 else if ¬ sf_tk A n p = 2 then 2 else if lo ≤ sf_tv A n p ∧ sf_tv A n p ≤ hi then 0 else 4
def sf_sem (A : Int → Int) (n p : Int) : Int := if sf_tk A n p = 4 then 1 else if sf_tk A n p = 3 ∧ sf_tv A n p = 59 then 0 else 2
/-- (fault, its place, behind, what sounds) -/
def sf_snd (A : Int → Int) (n : Int) : Nat → Int → Int → Int64 → Int × Int × Int × Int64
  | 0, p, _, S => (2, 0, p, S)
  | f + 1, p, r, S => if sf_tk A n p = 4 then (1, sf_ts A n p, p, S) else if sf_tk A n p = 3 ∧ sf_tv A n p = 59 then (0, 0, sf_te A n p, S) else if ¬ sf_tk A n p = 2 then (2, sf_ts A n p, p, S) else if ¬ sf_tv A n p < r then (4, sf_ts A n p, p, S) else if iq_tb S (sf_tv A n p) = true then (5, sf_ts A n p, p, S) else sf_snd A n f (sf_te A n p) r (S ||| iq_of (sf_tv A n p))
def sf_late (tl : Int64) (k : Int) : Bool := if k = 1 then iq_tb tl 1 || iq_tb tl 2 || iq_tb tl 5 || iq_tb tl 7 || iq_tb tl 8 || iq_tb tl 9 else !decide (k = 9) && iq_tb tl k
def sf_pup (P : Int → Int) (k v : Int) : Int → Int := fun i => if i = k then v else P i
/-- (fault, its place, parts, what sounds) -/
def sf_prs (A : Int → Int) (n : Int) : Nat → Int → (Int → Int) → Int64 → Int64 → Int × Int × (Int → Int) × Int64
  | 0, _, P, S, _ => (2, 0, P, S)
  | f + 1, p, P, S, tl => if sf_tk A n p = 4 then (1, sf_ts A n p, P, S) else if sf_tk A n p = 0 then (0, -1, P, S) else if ¬ (0 ≤ sf_kp A n p ∧ sf_kp A n p ≤ 9) then (2, sf_ts A n p, P, S) else if sf_late tl (sf_kp A n p) = true then (5, sf_ts A n p, P, S) else if sf_kp A n p = 9 then (if (sf_snd A n 901 (sf_te A n p) (P 1) S).1 = 0 then sf_prs A n f (sf_snd A n 901 (sf_te A n p) (P 1) S).2.2.1 P (sf_snd A n 901 (sf_te A n p) (P 1) S).2.2.2 (tl ||| iq_of 9) else ((sf_snd A n 901 (sf_te A n p) (P 1) S).1, (sf_snd A n 901 (sf_te A n p) (P 1) S).2.1, P, S)) else if sf_num A n (sf_te A n p) (sf_lo (sf_kp A n p)) (sf_hi (sf_kp A n p) (P 1)) = 0 then (if sf_sem A n (sf_te A n (sf_te A n p)) = 0 then sf_prs A n f (sf_te A n (sf_te A n (sf_te A n p))) (sf_pup P (sf_kp A n p) (sf_tv A n (sf_te A n p))) S (tl ||| iq_of (sf_kp A n p)) else (sf_sem A n (sf_te A n (sf_te A n p)), sf_ts A n (sf_te A n (sf_te A n p)), P, S)) else (sf_num A n (sf_te A n p) (sf_lo (sf_kp A n p)) (sf_hi (sf_kp A n p) (P 1)), sf_ts A n (sf_te A n p), P, S)
theorem sf_numR (A : Int → Int) (n p lo hi : Int) : 0 ≤ sf_num A n p lo hi ∧ sf_num A n p lo hi ≤ 4 := by
  unfold sf_num
  split
  · omega
  split
  · omega
  split <;> omega
theorem sf_semR (A : Int → Int) (n p : Int) : 0 ≤ sf_sem A n p ∧ sf_sem A n p ≤ 2 := by
  unfold sf_sem
  split
  · omega
  split <;> omega
theorem sf_tvR {A : Int → Int} {n p : Int} (hA : ∀ k : Int, 0 ≤ k → k < n → 0 ≤ A k ∧ A k ≤ 255) (hp : 0 ≤ p ∧ p ≤ n) (h : sf_tk A n p = 2 ∨ sf_tk A n p = 3) : 0 ≤ sf_tv A n p ∧ sf_tv A n p ≤ 9999 := by
  have sR := sf_tsR (A := A) hp
  have eR := (sf_teR (A := A) hp).2.2 (by omega)
  unfold sf_tk sf_tk1 at h
  rw [if_neg (by omega)] at h
  unfold sf_tv sf_tv1
  by_cases c1 : sf_lt (A (sf_ts A n p)) = true
  · rw [if_pos c1] at h; omega
  · rw [if_neg c1] at h
    by_cases c2 : sf_di (A (sf_ts A n p)) = true
    · rw [if_pos c2]
      rw [if_pos c2] at h
      by_cases c4 : 4 < sf_end sf_di A n (sf_ts A n p) - sf_ts A n p
      · rw [if_pos c4] at h; omega
      · have eg := sf_endR sf_di A n (sf_ts A n p)
        have dig : ∀ (f : Nat) (k : Int), ∀ i, k ≤ i → i < sf_spn sf_di A n f k → sf_di (A i) = true := by
          intro f
          induction f with
          | zero => intro k i y1 y2; rw [sf_spn] at y2; omega
          | succ f ih =>
            intro k i y1 y2
            rw [sf_spn] at y2
            split at y2
            · next c =>
              by_cases e : i = k
              · rw [e]; exact c.2
              · exact ih (k + 1) i (by omega) y2
            · omega
        have v := sf_vaR (A := A) (s := sf_ts A n p) (sf_end sf_di A n (sf_ts A n p) - sf_ts A n p).toNat (by omega) (fun i y1 y2 => dig (n - sf_ts A n p).toNat (sf_ts A n p) _ (by omega) (by unfold sf_end at y2; omega))
        have p4 : (10 : Int) ^ (sf_end sf_di A n (sf_ts A n p) - sf_ts A n p).toNat ≤ 10000 := by
          have : (sf_end sf_di A n (sf_ts A n p) - sf_ts A n p).toNat = 0 ∨ (sf_end sf_di A n (sf_ts A n p) - sf_ts A n p).toNat = 1 ∨ (sf_end sf_di A n (sf_ts A n p) - sf_ts A n p).toNat = 2 ∨ (sf_end sf_di A n (sf_ts A n p) - sf_ts A n p).toNat = 3 ∨ (sf_end sf_di A n (sf_ts A n p) - sf_ts A n p).toNat = 4 := by omega
          rcases this with e | e | e | e | e <;> rw [e] <;> decide
        omega
    · rw [if_neg c2]
      have := hA (sf_ts A n p) (by omega) eR.1
      omega
/-! the class -/
theorem sp63 {N : Nat} {xs : Nat → Int32} {Q : iq_T} {g : iq_I} {l : iq_J} {k : Int} (q : ∀ g' : iq_I, sf_RK g g' 8 → g' 10 7 = k → g' 10 8 = g 10 5 → Q (some (iq_i 0)) g' l) : iq_P N xs 63 0 [some (iq_r 10), some (iq_i k)] [] g l Q :=
  B63_10 _ _ _ (q _ (((sf_RK.refl g 8).uz (by omega)).uz (by omega)) (by simp [iq_uz]) (by simp [iq_uz]))
theorem sp64x {N : Nat} {xs : Nat → Int32} {Q : iq_T} {g : iq_I} {l : iq_J} {A : Int → Int} {n p : Int} (h : sf_AB g A n) (e : g 10 3 = p) (hp : 0 ≤ p ∧ p ≤ n) (q1 : ¬ sf_tk A n p = 4 → ∀ g' : iq_I, sf_RK g g' 6 → sf_CT g' A n p → Q (some (iq_i 1)) g' l) (q0 : sf_tk A n p = 4 → ∀ g' : iq_I, sf_RK g g' 8 → g' 10 7 = 1 → g' 10 8 = sf_ts A n p → Q (some (iq_i 0)) g' l) : iq_P N xs 64 0 [some (iq_r 10), none] [] g l Q :=
  sp64 h e hp (fun a g' b c d f i => q1 a g' b ⟨c, d, f, i⟩) q0
theorem sf_ABA {g : iq_I} {A : Int → Int} {n : Int} (h : sf_AB g A n) : ∀ k : Int, 0 ≤ k → k < n → 0 ≤ A k ∧ A k ≤ 255 := fun k a b => h.r a (by have := h.2.1; omega)
theorem sp76 {N : Nat} {xs : Nat → Int32} {Q : iq_T} {g : iq_I} {l : iq_J} {A : Int → Int} {n p c : Int} (h : sf_AB g A n) (hp : 0 ≤ p ∧ p ≤ n) (t : sf_CT g A n p) (hc : 0 ≤ c ∧ c ≤ 255) (q1 : sf_tk A n p = 3 ∧ sf_tv A n p = c → Q (some (iq_i 1)) g l) (q0 : ¬ (sf_tk A n p = 3 ∧ sf_tv A n p = c) → Q (some (iq_i 0)) g l) : iq_P N xs 76 0 [some (iq_r 10), some (iq_i c)] [] g l Q := by
  have tR := sf_tkR A n p
  refine B76_10 _ _ _ ?_
  rw [t.2.1]
  refine ⟨by omega, fun d => q0 (fun z => d z.1), fun d => ?_⟩
  have vR := sf_tvR (sf_ABA h) hp (.inr d)
  rw [t.2.2.2 (.inr d)]
  exact ⟨by omega, fun x => q0 (fun z => x z.2), fun x => q1 ⟨d, x⟩⟩
theorem sp82 {N : Nat} {xs : Nat → Int32} {Q : iq_T} {g : iq_I} {l : iq_J} {A : Int → Int} {n p lo hi : Int} (h : sf_AB g A n) (e : g 10 3 = p) (hp : 0 ≤ p ∧ p ≤ n) (hl : -1000 ≤ lo ∧ lo ≤ 1000) (hh : -1000 ≤ hi ∧ hi ≤ 1000) (q1 : sf_num A n p lo hi = 0 → ∀ g' : iq_I, sf_RK g g' 6 → sf_CT g' A n p → Q (some (iq_i 1)) g' l) (q0 : ¬ sf_num A n p lo hi = 0 → ∀ g' : iq_I, sf_RK g g' 8 → g' 10 7 = sf_num A n p lo hi → g' 10 8 = sf_ts A n p → Q (some (iq_i 0)) g' l) : iq_P N xs 82 0 [some (iq_r 10), some (iq_i lo), some (iq_i hi)] [] g l Q := by
  have tR := sf_tkR A n p
  unfold sf_num at q1 q0
  refine B82_10 _ _ _ _ (sp64x h e hp (fun a g1 k t => ⟨_, rfl, by omega, fun _ => ?_, fun h => by omega⟩) (fun a g1 k b c => ⟨_, rfl, by omega, fun h => absurd rfl h, fun _ => ?_⟩))
  · rw [if_neg a] at q1 q0
    rw [t.2.1]
    refine ⟨by omega, fun d => ?_, fun d => ?_⟩
    · have vR := sf_tvR (sf_ABA h) hp (.inl d)
      rw [if_neg (fun z => z d)] at q1 q0
      rw [t.2.2.2 (.inl d)]
      refine ⟨by omega, fun x => sp63 (fun g2 k2 b c => ⟨_, rfl, by omega, fun _ => ?_, fun h => absurd rfl h⟩), fun x => ⟨by omega, fun y => ?_, fun y => sp63 (fun g2 k2 b c => ⟨_, rfl, by omega, fun _ => ?_, fun h => absurd rfl h⟩)⟩⟩
      · rw [if_neg (by omega)] at q0
        exact q0 (by decide) g2 (k.trans k2 (by omega)) b (by rw [c, t.2.2.1])
      · rw [if_pos ⟨x, y⟩] at q1
        exact q1 rfl g1 k t
      · rw [if_neg (by omega)] at q0
        exact q0 (by decide) g2 (k.trans k2 (by omega)) b (by rw [c, t.2.2.1])
    · rw [if_pos d] at q0
      exact sp63 (fun g2 k2 b c => ⟨_, rfl, by omega, q0 (by decide) g2 (k.trans k2 (by omega)) b (by rw [c, t.2.2.1])⟩)
  · rw [if_pos a] at q0
    exact q0 (by decide) g1 k b c
theorem sp84 {N : Nat} {xs : Nat → Int32} {Q : iq_T} {g : iq_I} {l : iq_J} {A : Int → Int} {n p : Int} (h : sf_AB g A n) (e : g 10 3 = p) (hp : 0 ≤ p ∧ p ≤ n) (q1 : sf_sem A n p = 0 → ∀ g' : iq_I, sf_RK g g' 6 → sf_CT g' A n p → Q (some (iq_i 1)) g' l) (q0 : ¬ sf_sem A n p = 0 → ∀ g' : iq_I, sf_RK g g' 8 → g' 10 7 = sf_sem A n p → g' 10 8 = sf_ts A n p → Q (some (iq_i 0)) g' l) : iq_P N xs 84 0 [some (iq_r 10)] [] g l Q := by
  unfold sf_sem at q1 q0
  refine B84_10 _ _ (sp64x h e hp (fun a g1 k t => ⟨_, rfl, by omega, fun h => by omega, fun _ => ?_⟩) (fun a g1 k b c => ⟨_, rfl, by omega, fun _ => ?_, fun h => absurd rfl h⟩))
  · rw [if_neg a] at q1 q0
    refine sp76 (h.k k) hp t (by omega) (fun d => ⟨_, rfl, by omega, fun _ => ?_, fun h => by omega⟩) (fun d => ⟨_, rfl, by omega, fun h => absurd rfl h, fun _ => sp63 (fun g2 k2 b c => ⟨_, rfl, by omega, fun _ => ?_, fun h => absurd rfl h⟩)⟩)
    · rw [if_pos d] at q1
      exact q1 rfl g1 k t
    · rw [if_neg d] at q0
      exact q0 (by decide) g2 (k.trans k2 (by omega)) b (by rw [c, t.2.2.1])
  · rw [if_pos a] at q0
    exact q0 (by decide) g1 k b c
/-- all but the reader and the draft -/
def sf_DK (g0 : iq_I) (l0 : iq_J) (g : iq_I) (l : iq_J) : Prop := (∀ j, ¬ j = 10 → ¬ j = 13 → ¬ j = 14 → g j = g0 j) ∧ (∀ k, ¬ (3 ≤ k ∧ k ≤ 8) → g 10 k = g0 10 k) ∧ (∀ j, ¬ j = 12 → ¬ j = 13 → l j = l0 j)
def sf_DS (g0 : iq_I) (l0 : iq_J) (g : iq_I) (l : iq_J) (P : Int → Int) (S tl : Int64) : Prop := sf_DK g0 l0 g l ∧ (∀ k, 0 ≤ k → k < 9 → g 14 k = P k) ∧ l 13 3 = S ∧ l 12 2 = tl ∧ g 13 2 = 0 ∧ g 10 7 = 0 ∧ g 10 8 = -1
theorem sf_DK.rk {g0 g g' : iq_I} {l0 l : iq_J} {b : Int} (h : sf_DK g0 l0 g l) (k : sf_RK g g' b) (hb : b ≤ 8) : sf_DK g0 l0 g' l := ⟨fun j y1 y2 y3 => by rw [k.1 j y1]; exact h.1 j y1 y2 y3, fun i y => by rw [k.2 i (by omega)]; exact h.2.1 i y, h.2.2⟩
theorem sf_DS.rk {g0 g g' : iq_I} {l0 l : iq_J} {P : Int → Int} {S tl : Int64} (h : sf_DS g0 l0 g l P S tl) (k : sf_RK g g' 6) : sf_DS g0 l0 g' l P S tl := by
  obtain ⟨h1, h2, h3, h4, h5, h6, h7⟩ := h
  exact ⟨h1.rk k (by omega), by rw [k.1 14 (by decide)]; exact h2, h3, h4, by rw [k.1 13 (by decide)]; exact h5, by rw [k.2 7 (by omega)]; exact h6, by rw [k.2 8 (by omega)]; exact h7⟩
theorem sp78_p {N : Nat} {xs : Nat → Int32} {Q : iq_T} {g0 : iq_I} {l0 : iq_J} {A : Int → Int} {n : Int} {P : Int → Int} {tl : Int64} (hP : 2 ≤ P 1 ∧ P 1 ≤ 60) (f : Nat) : ∀ (g : iq_I) (l : iq_J) (p v : Int) (S : Int64), sf_DS g0 l0 g l P S tl → sf_AB g A n → g 10 3 = p → (0 ≤ p ∧ p ≤ n) → n - p < f → (0 ≤ v ∧ v ≤ p) → ((sf_snd A n f p (P 1) S).1 = 0 → ∀ (g' : iq_I) (l' : iq_J), sf_DS g0 l0 g' l' P (sf_snd A n f p (P 1) S).2.2.2 tl → sf_AB g' A n → g' 10 3 = (sf_snd A n f p (P 1) S).2.2.1 → p < (sf_snd A n f p (P 1) S).2.2.1 → (sf_snd A n f p (P 1) S).2.2.1 ≤ n → Q (some (iq_i 1)) g' l') → (¬ (sf_snd A n f p (P 1) S).1 = 0 → ∀ (g' : iq_I) (l' : iq_J), sf_DK g0 l0 g' l' → g' 10 7 = (sf_snd A n f p (P 1) S).1 → g' 10 8 = (sf_snd A n f p (P 1) S).2.1 → Q (some (iq_i 0)) g' l') → iq_P N xs 78 2 [some (iq_r 12), some (iq_i v)] [] g l Q := by
  induction f with
  | zero => intro g l p v S _ _ _ hp hf; omega
  | succ f ih =>
    intro g l p v S hD h e hp hf hv q1 q0
    have hn := h.2.1
    have tR := sf_tkR A n p
    rw [sf_snd] at q1 q0
    refine B78_p2_12 _ _ _ ⟨by omega, fun h => by omega, fun _ => sp64x h e hp (fun a g1 k t => ⟨_, rfl, by omega, fun _ => ?_, fun h => by omega⟩) (fun a g1 k b c => ⟨_, rfl, by omega, fun h => absurd rfl h, fun _ => ?_⟩)⟩
    · rw [if_neg a] at q1 q0
      have h1 := h.k k
      have D1 := hD.rk k
      have eR := sf_teR (A := A) hp
      have sR := sf_tsR (A := A) hp
      refine sp76 h1 hp t (by omega) (fun d => ⟨_, rfl, by omega, fun h => by omega, fun _ => ?_⟩) (fun d => ⟨_, rfl, by omega, fun _ => ?_, fun h => absurd rfl h⟩)
      · rw [if_pos d] at q1
        have := eR.2.2 (by omega)
        exact q1 rfl g1 l D1 h1 t.1 (show p < sf_te A n p by omega) eR.2.1
      · rw [if_neg d] at q1 q0
        rw [t.2.1]
        refine ⟨by omega, fun x => ?_, fun x => ?_⟩
        · rw [if_neg (fun z => z x)] at q1 q0
          have vR := sf_tvR (sf_ABA h) hp (.inl x)
          rw [t.2.2.2 (.inl x)]
          have e14 := D1.2.1 1 (by omega) (by omega)
          refine sp77_13 (by omega) (by omega) (fun y1 y2 => ⟨_, rfl, by omega, fun _ => ?_, fun h => by omega⟩) (fun y => ⟨_, rfl, by omega, fun h => absurd rfl h, fun _ => ?_⟩)
          · rw [e14] at y2
            rw [if_neg (fun z => z y2)] at q1 q0
            rw [t.2.2.2 (.inl x), D1.2.2.1]
            refine sp74 (by omega) (fun z => ⟨_, rfl, by omega, fun h => by omega, fun _ => ?_⟩) (fun z => ⟨_, rfl, by omega, fun _ => ?_, fun h => absurd rfl h⟩)
            · rw [if_pos z] at q0
              exact sp63 (fun g2 k2 b c => ⟨_, rfl, by omega, q0 (by simp) g2 l (D1.1.rk k2 (by omega)) b (by rw [c, t.2.2.1])⟩)
            · rw [if_neg (by rw [z]; decide)] at q1 q0
              rw [t.2.2.2 (.inl x)]
              refine sp6 (by omega) ⟨_, rfl, B78_p132_12 _ _ _ ?_⟩
              have := eR.2.2 (by omega)
              refine ih g1 _ (sf_te A n p) (v + 1) (S ||| iq_of (sf_tv A n p)) ⟨⟨D1.1.1, D1.1.2.1, fun j y1 y2 => ?_⟩, D1.2.1, ?_, ?_, D1.2.2.2.2⟩ h1 t.1 (by omega) (by omega) (by omega) (fun w g' l' b1 b2 b3 b4 b5 => q1 w g' l' b1 b2 b3 (by omega) b5) q0
              · rw [sf_uzn _ y2]; exact D1.1.2.2 j y1 y2
              · rw [D1.2.2.1]; simp [iq_uz]
              · rw [← D1.2.2.2.1]; simp [iq_uz]
          · rw [e14] at y
            rw [if_pos (by omega)] at q0
            exact sp63 (fun g2 k2 b c => ⟨_, rfl, by omega, q0 (by simp) g2 l (D1.1.rk k2 (by omega)) b (by rw [c, t.2.2.1])⟩)
        · rw [if_pos x] at q0
          exact sp63 (fun g2 k2 b c => ⟨_, rfl, by omega, q0 (by simp) g2 l (D1.1.rk k2 (by omega)) b (by rw [c, t.2.2.1])⟩)
    · rw [if_pos a] at q0
      exact q0 (by simp) g1 l (hD.1.rk k (by omega)) b c
