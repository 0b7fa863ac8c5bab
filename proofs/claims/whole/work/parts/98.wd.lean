/-! way and wayAt in the class: laid; the calls. -/
def sf_W (S : Int64) (i : Int) : Int := iq_nth (iq_tb S) 64 0 i
def sf_wm (S : Int64) : Nat := (iq_cn (iq_tb S) 64).toNat
theorem sf_Wt {S : Int64} {i : Int} {k : Nat} (h0 : 0 ≤ i) (h : i < iq_cn (iq_tb S) k) (hk : k ≤ 64) : ∃ t : Nat, t < k ∧ iq_tb S t = true ∧ iq_cn (iq_tb S) t = i ∧ sf_W S i = t := by
  obtain ⟨t, h1, h2, h3⟩ := iq_cn_sur (iq_tb S) k i h0 h
  refine ⟨t, h1, h2, h3, ?_⟩
  have := iq_nth_shift (iq_tb S) 64 0 i t (Nat.zero_le _) (by omega) h2 (by rw [h3, iq_cn]; omega)
  exact this
theorem sf_WR {S : Int64} {p : Int} (hS : ∀ t, iq_tb S t = true → t < p) : ∀ i : Int, 0 ≤ i → i < sf_wm S → 0 ≤ sf_W S i ∧ sf_W S i < p := by
  intro i h1 h2
  unfold sf_wm at h2
  obtain ⟨t, t1, t2, t3, t4⟩ := sf_Wt (S := S) (i := i) (k := 64) h1 (by omega) (Nat.le_refl _)
  rw [t4]
  have := hS t t2
  omega
theorem sf_wm1 {m : Nat} (h : 1 ≤ m) (h7 : m ≤ 7) : iq_cn (fun x => !sf_bt 1 x) m = m - 1 := by
  have : m = 1 ∨ m = 2 ∨ m = 3 ∨ m = 4 ∨ m = 5 ∨ m = 6 ∨ m = 7 := by omega
  rcases this with e | e | e | e | e | e | e <;> subst e <;> decide +kernel
theorem sf_2m {m : Nat} (h : 1 ≤ m) (h7 : m ≤ 7) : (1 : Int) < 2 ^ m := by
  have : m = 1 ∨ m = 2 ∨ m = 3 ∨ m = 4 ∨ m = 5 ∨ m = 6 ∨ m = 7 := by omega
  rcases this with e | e | e | e | e | e | e <;> subst e <;> decide
section WD
variable {N : Nat} {xs : Nat → Int32} {Q : iq_T} {l : iq_J} {p : Int} {S : Int64}
theorem sp282_g {g0 : iq_I} (hp : 2 ≤ p ∧ p ≤ 60) (hS : ∀ t, iq_tb S t = true → t < p) (h7 : sf_wm S ≤ 7) (q : ∀ G : iq_I, (∀ j, ¬ j = 35 → ¬ j = 36 → G j = g0 j) → sf_WK G (sf_wm S) p (sf_W S) → iq_P N xs 282 74 [some (iq_r 35), some (iq_l S), none, some (iq_i p), some (iq_i (iq_shl 1 (sf_wm S) - 1)), none] [] G l Q) (n : Nat) : ∀ (k : Nat) (G : iq_I), (k : Int) + n = p → (∀ j, ¬ j = 35 → ¬ j = 36 → G j = g0 j) → G 35 4 = p → G 35 3 = iq_cn (iq_tb S) k → (∀ t : Nat, t < k → iq_tb S t = true → G 36 (iq_cn (iq_tb S) t) = t) → iq_P N xs 282 13 [some (iq_r 35), some (iq_l S), none, some (iq_i p), some (iq_i k), none] [] G l Q := by
  have hw : ((sf_wm S : Nat) : Int) = iq_cn (iq_tb S) 64 := by
    have := iq_cn_nonneg (iq_tb S) 64
    unfold sf_wm
    omega
  have done : ∀ (k : Nat) (G : iq_I), k ≤ 64 → iq_cn (iq_tb S) k = sf_wm S → (∀ j, ¬ j = 35 → ¬ j = 36 → G j = g0 j) → G 35 4 = p → G 35 3 = iq_cn (iq_tb S) k → (∀ t : Nat, t < k → iq_tb S t = true → G 36 (iq_cn (iq_tb S) t) = t) → iq_P N xs 282 74 [some (iq_r 35), some (iq_l S), none, some (iq_i p), some (iq_i (iq_shl 1 (G 35 3) - 1)), none] [] G l Q := by
    intro k G k64 e b1 b2 b3 b4
    rw [b3, e]
    refine q G b1 ⟨by rw [b3, e], b2, fun i y1 y2 => ?_⟩
    obtain ⟨t, t1, t2, t3, t4⟩ := sf_Wt (S := S) (i := i) (k := k) y1 (by omega) k64
    rw [t4, ← t3]
    exact b4 t t1 t2
  induction n with
  | zero =>
    intro k G hn b1 b2 b3 b4
    have e : iq_cn (iq_tb S) k = sf_wm S := by
      rw [hw]
      symm
      refine iq_cn_ext (by omega) (fun i y1 y2 => ?_)
      rcases hb : iq_tb S i with _ | _
      · rfl
      · have := hS i hb; omega
    exact B282_p13_35 _ _ _ _ _ ⟨by omega, fun _ => done k G (by omega) e b1 b2 b3 b4, fun h => by omega⟩
  | succ n ih =>
    intro k G hn b1 b2 b3 b4
    have c0 := iq_cn_nonneg (iq_tb S) k
    have cm := iq_cn_mono (iq_tb S) (a := k) (b := 64) (by omega)
    have nx : iq_cn (iq_tb S) (k + 1) = iq_cn (iq_tb S) k + (if iq_tb S k = true then 1 else 0) := by rw [iq_cn]
    refine B282_p13_35 _ _ _ _ _ ⟨by omega, fun h => by omega, fun _ => ⟨by omega, fun c => done k G (by omega) (by omega) b1 b2 b3 b4, fun c => ?_⟩⟩
    rw [show ((k : Nat) : Int) + 1 = ((k + 1 : Nat) : Int) by omega]
    refine sp74 (by omega) (fun h => ⟨_, rfl, by omega, fun h => by omega, fun _ => ⟨by omega, ?_⟩⟩) (fun h => ⟨_, rfl, by omega, fun _ => ?_, fun h => by omega⟩)
    · rw [if_pos h] at nx
      refine ih (k + 1) _ (by omega) (fun j y1 y2 => ?_) ?_ ?_ (fun t t1 t2 => ?_)
      · rw [sf_uzn _ y1, sf_uzn _ y2]; exact b1 j y1 y2
      · rw [← b2]; simp [iq_uz]
      · rw [nx, ← b3]; simp [iq_uz]
      · rw [sf_uzn _ (by decide), b3]
        by_cases e : t = k
        · subst e; simp [iq_uz]
        · have lt := iq_cn_lt (f := iq_tb S) (a := t) (b := k) (by omega) t2
          have ne : ¬ iq_cn (iq_tb S) t = iq_cn (iq_tb S) k := by omega
          have := b4 t (by omega) t2
          simp [iq_uz, ne, this]
    · rw [if_neg (by rw [h]; decide), Int.add_zero] at nx
      refine ih (k + 1) G (by omega) b1 b2 (by rw [nx]; exact b3) (fun t t1 t2 => ?_)
      by_cases e : t = k
      · subst e; rw [h] at t2; cases t2
      · exact b4 t (by omega) t2
theorem sp282 {g : iq_I} (hp : 2 ≤ p ∧ p ≤ 60) (hS : ∀ t, iq_tb S t = true → t < p) (h7 : sf_wm S ≤ 7) (q : ∀ (G : iq_I) (T : Int → Int → Int), (∀ j, ¬ (35 ≤ j ∧ j ≤ 38) → G j = g j) → sf_RC (sf_wm S) (sf_dd (sf_W S) p) T → G 35 3 = sf_wm S → sf_T G = T → (∀ i : Nat, i < sf_wm S → G 37 i = sf_W S (sf_wg (sf_wm S) (sf_dd (sf_W S) p) T i 1 0)) → Q none G l) : iq_P N xs 282 0 [some (iq_r 35), some (iq_l S), none, some (iq_i p), none, none] [] g l Q := by
  have p2 := sf_p2 h7
  have hW := sf_WR hS
  refine B282_35 _ _ _ _ (sp282_g (g0 := g) hp hS h7 (fun G1 a1 k1 => ?_) p.toNat 0 _ (by omega) (fun j y1 y2 => by rw [sf_uzn _ y1, sf_uzn _ y1]) (by simp [iq_uz]) (by rw [iq_cn]; simp [iq_uz]) (fun t t1 => by omega))
  rw [sf_p2s h7, show (2 : Int) ^ sf_wm S - 1 = (((2 : Int) ^ sf_wm S - 1).toNat : Int) by omega]
  refine sp282_a (g := G1) h7 hp hW (fun G2 a2 rc => ?_) _ G1 none (by omega) k1 (fun _ _ => rfl) (fun v y y1 y2 => by omega)
  have k2 : sf_WK G2 (sf_wm S) p (sf_W S) := by
    refine ⟨?_, ?_, fun i y1 y2 => ?_⟩
    · rw [a2 35 (by decide)]; exact k1.1
    · rw [a2 35 (by decide)]; exact k1.2.1
    · rw [a2 36 (by decide)]; exact k1.2.2 i y1 y2
  refine B281_35 _ _ ?_
  have fin : ∀ G : iq_I, (∀ j, ¬ j = 37 → G j = (iq_uz G2 37 0 (G2 36 0)) j) → (∀ i : Nat, i < sf_wm S → G 37 i = sf_W S (sf_wg (sf_wm S) (sf_dd (sf_W S) p) (sf_T G2) i 1 0)) → Q none G l := by
    intro G b1 b2
    refine q G (sf_T G2) (fun j y => ?_) rc ?_ ?_ b2
    · rw [b1 j (by omega), sf_uzn _ (by omega), a2 j (by omega), a1 j (by omega) (by omega)]
    · rw [b1 35 (by decide), sf_uzn _ (by decide)]; exact k2.1
    · funext v y
      unfold sf_T
      rw [b1 38 (by decide), sf_uzn _ (by decide)]
  by_cases m0 : sf_wm S = 0
  · refine B281_p18_35 _ _ _ _ _ _ ?_
    rw [show (iq_uz G2 37 0 (G2 36 0)) 35 3 = 0 by rw [sf_uzn _ (by decide), k2.1, m0]; rfl]
    exact ⟨by omega, fun _ => ⟨rfl, fin _ (fun _ _ => rfl) (fun i hi => by omega)⟩, fun h => by omega⟩
  · refine sp281_p (g := iq_uz G2 37 0 (G2 36 0)) h7 hp hW rc (fun v y => ?_) ⟨?_, ?_, fun i y1 y2 => ?_⟩ (fun G b1 b2 => ⟨rfl, fin G b1 b2⟩) (sf_wm S - 1) 1 _ 1 0 none (by omega) (by omega) (fun _ _ => rfl) (fun i hi => ?_) (fun j => ?_) ⟨by omega, sf_2m (by omega) h7⟩ (by omega) (sf_wm1 (by omega) h7)
    · unfold sf_T; rw [sf_uzn _ (by decide)]
    · rw [sf_uzn _ (by decide)]; exact k2.1
    · rw [sf_uzn _ (by decide)]; exact k2.2.1
    · rw [sf_uzn _ (by decide)]; exact k2.2.2 i y1 y2
    · have i0 : i = 0 := by omega
      subst i0
      rw [sf_wg]
      have := k2.2.2 0 (by omega) (by omega)
      simp [iq_uz, this]
    · rw [show 1 - 1 + j = j by omega]
end WD
theorem sf_KKw {g g' : iq_I} {l : iq_J} (h : ∀ j, ¬ (35 ≤ j ∧ j ≤ 38) → g' j = g j) : iq_KK g l g' l := by
  refine iq_KK.ofg (fun j k hb => ?_)
  rw [h j (fun e => by
    have : iq_sx j k = true := by unfold iq_sx; have : 31 ≤ j ∧ j ≤ 39 := by omega
                                  simp [this.1, this.2]
    rw [this] at hb; cases hb)]
theorem cWay {N : Nat} {xs : Nat → Int32} {Q : iq_T} {g : iq_I} {l : iq_J} (hs : iq_SR g l 23 24 25 0) (q1 : sf_wm (l 23 3) ≤ 7 → ∀ T : Int → Int → Int, sf_RC (sf_wm (l 23 3)) (sf_dd (sf_W (l 23 3)) (g 24 1)) T → ∀ (g' : iq_I) (l' : iq_J), iq_KK g l g' l' → g' 0 0 = 0 → Q (some (iq_i (if sf_wm (l 23 3) < 2 then 0 else T 1 0))) g' l') (q0 : ¬ sf_wm (l 23 3) ≤ 7 → ∀ (g' : iq_I) (l' : iq_J), iq_KK g l g' l' → g' 0 0 = 7 → Q (some (iq_i (-1))) g' l') : iq_P N xs 284 0 [some (iq_r 0)] [] g l Q := by
  have hp1 := hs.1.2.1
  have c0 := iq_cn_nonneg (iq_tb (l 23 3)) 64
  have wm : sf_wm (l 23 3) = (iq_cn (iq_tb (l 23 3)) 64).toNat := rfl
  refine B284_0 _ _ (sp88 ⟨_, rfl, by omega, fun c => B80_23 _ _ ⟨_, rfl, sp282 hp1 hs.2.2.2.1 (by omega) (fun G T a1 rc a2 a3 a4 => ⟨rfl, ?_⟩)⟩, fun c => sp44 ⟨_, rfl, q0 (by omega) _ _ ((iq_KK.refl _ _).uz iq_sx00) (by simp [iq_uz])⟩⟩)
  have q1 := q1 (by omega) T rc
  refine B283_35 _ _ ?_
  rw [a2]
  refine ⟨by omega, fun d => sp277 (by omega) (by omega) ⟨_, rfl, _, rfl, sp90 ⟨_, rfl, ?_⟩⟩, fun d => ⟨_, rfl, sp90 ⟨_, rfl, ?_⟩⟩⟩
  · rw [if_neg (by omega)] at q1
    rw [a3]
    exact q1 _ _ ((sf_KKw a1).uz iq_sx00) (by simp [iq_uz])
  · rw [if_pos (by omega)] at q1
    exact q1 _ _ ((sf_KKw a1).uz iq_sx00) (by simp [iq_uz])
def aWayAt (S : Int64) (p : Int) (T : Int → Int → Int) (k : Int) : Int × Int := if 0 ≤ k ∧ k < sf_wm S then (sf_W S (sf_wg (sf_wm S) (sf_dd (sf_W S) p) T k.toNat 1 0), 0) else (-1, 6)
theorem sf_wgR {m : Nat} {d T : Int → Int → Int} (hm : m ≤ 7) (rc : sf_RC m d T) : ∀ (k : Nat) (u a : Int), (0 < u ∧ u < 2 ^ m) → (0 ≤ a ∧ a < m) → (k : Int) ≤ iq_cn (fun x => !sf_bt u x) m → 0 ≤ sf_wg m d T k u a ∧ sf_wg m d T k u a < m := by
  have p2 := sf_p2 hm
  intro k
  induction k with
  | zero => intro u a _ ha _; exact ha
  | succ k ih =>
    intro u a hu ha hc
    rw [sf_wg]
    have ex := sf_left (m := m) (u := u) (by omega)
    obtain ⟨x1, x2, x3, x4⟩ := sf_wxs (rc u a hu.1 hu.2 ha.1 ha.2) ex
    have ol := sf_or_lt (m := m) (u := u) (k := sf_wx m d T u a) (by omega) x1
    have o6 := sf_c6 (u := u) (k := sf_wx m d T u a) (by omega) (by omega) x2
    have cS := sf_leftS (m := m) (u := u) (x := sf_wx m d T u a) (by omega) x1 x2
    exact ih _ _ (by omega) x1 (by omega)
theorem cWayAt {N : Nat} {xs : Nat → Int32} {Q : iq_T} {g : iq_I} {l : iq_J} {k : Int} (hs : iq_SR g l 23 24 25 0) (hk : -2147483648 ≤ k ∧ k ≤ 2147483647) (q1 : sf_wm (l 23 3) ≤ 7 → ∀ T : Int → Int → Int, sf_RC (sf_wm (l 23 3)) (sf_dd (sf_W (l 23 3)) (g 24 1)) T → ∀ (g' : iq_I) (l' : iq_J), iq_KK g l g' l' → g' 0 0 = (aWayAt (l 23 3) (g 24 1) T k).2 → Q (some (iq_i (aWayAt (l 23 3) (g 24 1) T k).1)) g' l') (q0 : ¬ sf_wm (l 23 3) ≤ 7 → ∀ (g' : iq_I) (l' : iq_J), iq_KK g l g' l' → g' 0 0 = 7 → Q (some (iq_i (-1))) g' l') : iq_P N xs 290 0 [some (iq_r 0), some (iq_i k)] [] g l Q := by
  have hp1 := hs.1.2.1
  have c0 := iq_cn_nonneg (iq_tb (l 23 3)) 64
  have wm : sf_wm (l 23 3) = (iq_cn (iq_tb (l 23 3)) 64).toNat := rfl
  refine B290_0 _ _ _ (sp88 ⟨_, rfl, by omega, fun c => B80_23 _ _ ⟨_, rfl, sp282 hp1 hs.2.2.2.1 (by omega) (fun G T a1 rc a2 a3 a4 => ⟨rfl, ?_⟩)⟩, fun c => sp44 ⟨_, rfl, q0 (by omega) _ _ ((iq_KK.refl _ _).uz iq_sx00) (by simp [iq_uz])⟩⟩)
  have q1 := q1 (by omega) T rc
  unfold aWayAt at q1
  have no : ¬ (0 ≤ k ∧ k < sf_wm (l 23 3)) → iq_P N xs 167 0 [some (iq_r 0), some (iq_i (-1))] [] G l (fun r g4 l5 => ∃ z6, r = some (iq_i z6) ∧ (Q (some (iq_i z6)) g4 l5)) := fun c => by
    rw [if_neg c] at q1
    exact sp167 (by omega) (fun _ => ⟨_, rfl, q1 _ _ ((sf_KKw a1).uz iq_sx00) (by simp [iq_uz])⟩) (fun h => by omega)
  refine B289_35 _ _ _ ?_
  rw [a2]
  refine ⟨by omega, fun d => ⟨_, rfl, no (by omega)⟩, fun d1 => ⟨by omega, fun d => ⟨_, rfl, no (by omega)⟩, fun d2 => ⟨by omega, fun d => by omega, fun _ => ⟨by omega, _, rfl, ?_⟩⟩⟩⟩
  have e := a4 k.toNat (by omega)
  rw [show ((k.toNat : Nat) : Int) = k by omega] at e
  rw [if_pos ⟨d1, d2⟩, ← e] at q1
  have wr := sf_wgR (m := sf_wm (l 23 3)) (by omega) rc k.toNat 1 0 ⟨by omega, sf_2m (by omega) (by omega)⟩ (by omega) (by rw [sf_wm1 (by omega) (by omega)]; omega)
  have wR := sf_WR (S := l 23 3) hs.2.2.2.1 _ wr.1 wr.2
  rw [← e] at wR
  exact sp167 (by omega) (fun h => by omega) (fun _ => ⟨_, rfl, q1 _ _ ((sf_KKw a1).uz iq_sx00) (by simp [iq_uz])⟩)
