/-! way and wayAt in the class. -/
def sf_WK (g : iq_I) (m : Nat) (p : Int) (W : Int → Int) : Prop := g 35 3 = m ∧ g 35 4 = p ∧ (∀ i : Int, 0 ≤ i → i < m → g 36 i = W i)
def sf_T (g : iq_I) (u a : Int) : Int := g 38 (u * 7 + a)
section WC
variable {N : Nat} {xs : Nat → Int32} {Q : iq_T} {g : iq_I} {l : iq_J} {m : Nat} {p : Int} {W : Int → Int}
theorem sp276 {a x : Int} (hk : sf_WK g m p W) (hm : m ≤ 7) (hp : 2 ≤ p ∧ p ≤ 60) (hW : ∀ i : Int, 0 ≤ i → i < m → 0 ≤ W i ∧ W i < p) (ha : 0 ≤ a ∧ a < m) (hx : 0 ≤ x ∧ x < m) (q : Q (some (iq_i (sf_dd W p a x))) g l) : iq_P N xs 276 0 [some (iq_r 35), some (iq_i a), some (iq_i x), none, none] [] g l Q := by
  obtain ⟨k1, k2, k3⟩ := hk
  have w1 := hW a ha.1 ha.2
  have w2 := hW x hx.1 hx.2
  refine B276_35 _ _ _ _ ⟨by omega, fun h => by omega, fun _ => ⟨by omega, fun h => by omega, fun _ => ⟨by omega, fun h => by omega, fun _ => ⟨by omega, fun h => by omega, fun _ => ⟨by omega, by omega, ?_⟩⟩⟩⟩⟩
  rw [k3 a ha.1 ha.2, k3 x hx.1 hx.2]
  refine sp239 (by omega) ⟨_, rfl, ?_⟩
  rw [k2]
  exact sp95 (by omega) (by omega) ⟨_, rfl, q⟩
theorem sp277 {u a : Int} (hu : 0 ≤ u ∧ u < 128) (ha : 0 ≤ a ∧ a < 7) (q : Q (some (iq_i (sf_T g u a))) g l) : iq_P N xs 277 0 [some (iq_r 35), some (iq_i u), some (iq_i a), none] [] g l Q :=
  B277_35 _ _ _ _ ⟨by omega, fun h => by omega, fun _ => ⟨by omega, fun h => by omega, fun _ => ⟨by omega, q⟩⟩⟩
theorem sp278 {u a x : Int} (hk : sf_WK g m p W) (hm : m ≤ 7) (hp : 2 ≤ p ∧ p ≤ 60) (hW : ∀ i : Int, 0 ≤ i → i < m → 0 ≤ W i ∧ W i < p) (hu : 0 ≤ u ∧ u < 2 ^ m) (ha : 0 ≤ a ∧ a < m) (hx : 0 ≤ x ∧ x < m) (q : Q (some (iq_i (sf_dd W p a x + sf_T g (sf_or u x) x))) g l) : iq_P N xs 278 0 [some (iq_r 35), some (iq_i u), some (iq_i a), some (iq_i x)] [] g l Q := by
  have p2 := sf_p2 hm
  have ol := sf_or_lt hu hx
  refine B278_35 _ _ _ _ _ (sp276 hk hm hp hW ha hx ⟨_, rfl, ?_⟩)
  rw [sf_c1 (by omega) (by omega)]
  exact sp277 (by omega) (by omega) ⟨_, rfl, q⟩
def sf_mn (m : Nat) (d : Int → Int → Int) (g : iq_I) (u a : Int) (k v : Int) : Prop := (v = -1 ∧ ∀ x : Int, 0 ≤ x → x < k → sf_bt u x = true) ∨ (0 ≤ v ∧ (∃ x : Int, (0 ≤ x ∧ x < k) ∧ sf_bt u x = false ∧ d a x + sf_T g (sf_or u x) x = v) ∧ ∀ x : Int, 0 ≤ x → x < k → sf_bt u x = false → v ≤ d a x + sf_T g (sf_or u x) x)
theorem sp279_p {u a : Int} (hk : sf_WK g m p W) (hm : m ≤ 7) (hp : 2 ≤ p ∧ p ≤ 60) (hW : ∀ i : Int, 0 ≤ i → i < m → 0 ≤ W i ∧ W i < p) (hu : 0 ≤ u ∧ u < 2 ^ m) (ha : 0 ≤ a ∧ a < m) (hT : ∀ x : Int, 0 ≤ x → x < m → sf_bt u x = false → 0 ≤ sf_T g (sf_or u x) x ∧ sf_T g (sf_or u x) x ≤ 60 * (128 - sf_or u x)) (q : ∀ v, sf_mn m (sf_dd W p) g u a m v → Q (some (iq_i (if v = -1 then 0 else v))) g l) (n : Nat) : ∀ (k : Nat) (v : Int) (d5 : Option iq_V), k + n = m → sf_mn m (sf_dd W p) g u a k v → v ≤ 100000 → iq_P N xs 279 5 [some (iq_r 35), some (iq_i u), some (iq_i a), some (iq_i v), some (iq_i k), d5] [] g l Q := by
  have p2 := sf_p2 hm
  have e3 := hk.1
  induction n with
  | zero =>
    intro k v d5 hn hv hb
    have km : k = m := by omega
    subst km
    have vr : -1 ≤ v := by rcases hv with h | h <;> omega
    have q := q v hv
    refine B279_p5_35 _ _ _ _ _ _ _ ?_
    rw [e3]
    refine ⟨by omega, fun _ => ⟨by omega, fun c => ?_, fun c => ?_⟩, fun h => by omega⟩
    · rw [if_neg c] at q; exact q
    · rw [if_pos c] at q; exact q
  | succ n ih =>
    intro k v d5 hn hv hb
    have vr : -1 ≤ v := by rcases hv with h | h <;> omega
    refine B279_p5_35 _ _ _ _ _ _ _ ?_
    rw [e3]
    refine ⟨by omega, fun h => by omega, fun _ => ?_⟩
    have bt := sf_c2 (u := u) (k := k) (by omega) (by omega)
    rw [show ((k : Nat) : Int) + 1 = ((k + 1 : Nat) : Int) by omega]
    refine sp74 (by omega) (fun c => ⟨_, rfl, by omega, fun _ => ?_, fun h => by omega⟩) (fun c => ⟨_, rfl, by omega, fun h => absurd rfl h, fun _ => ?_⟩)
    · rw [bt] at c
      refine ih (k + 1) v _ (by omega) ?_ hb
      rcases hv with ⟨h1, h2⟩ | ⟨h1, h2, h3⟩
      · refine .inl ⟨h1, fun x y1 y2 => ?_⟩
        by_cases e : x = k
        · rw [e]; exact c
        · exact h2 x y1 (by omega)
      · obtain ⟨x, x1, x2, x3⟩ := h2
        refine .inr ⟨h1, ⟨x, by omega, x2, x3⟩, fun y y1 y2 y3 => ?_⟩
        by_cases e : y = k
        · rw [e, c] at y3; cases y3
        · exact h3 y y1 (by omega) y3
    · rw [bt] at c
      have tR := hT k (by omega) (by omega) c
      have dR := sf_ddR (hW a ha.1 ha.2) (hW k (by omega) (by omega)) hp.2
      have ol := sf_or_lt (m := m) (u := u) (k := k) hu (by omega)
      refine sp278 hk hm hp hW hu ha (by omega) ⟨_, rfl, by omega, fun e => ?_, fun e => ?_⟩
      · refine sp95 (by omega) (by omega) ⟨_, rfl, ih (k + 1) _ _ (by omega) ?_ (by omega)⟩
        rcases hv with ⟨h1, h2⟩ | ⟨h1, h2, h3⟩
        · exact absurd h1 e
        · obtain ⟨x, x1, x2, x3⟩ := h2
          refine .inr ⟨by omega, ?_, fun y y1 y2 y3 => ?_⟩
          · by_cases z : v ≤ sf_dd W p a k + sf_T g (sf_or u k) k
            · exact ⟨x, by omega, x2, by omega⟩
            · exact ⟨k, by omega, c, by omega⟩
          · by_cases z : y = k
            · rw [z]; omega
            · have := h3 y y1 (by omega) y3; omega
      · refine ih (k + 1) _ _ (by omega) ?_ (by omega)
        rcases hv with ⟨h1, h2⟩ | ⟨h1, h2, h3⟩
        · refine .inr ⟨by omega, ⟨k, by omega, c, rfl⟩, fun y y1 y2 y3 => ?_⟩
          by_cases z : y = k
          · rw [z]; omega
          · have := h2 y y1 (by omega); rw [this] at y3; cases y3
        · omega
theorem sp279 {u a : Int} (hk : sf_WK g m p W) (hm : m ≤ 7) (hp : 2 ≤ p ∧ p ≤ 60) (hW : ∀ i : Int, 0 ≤ i → i < m → 0 ≤ W i ∧ W i < p) (hu : 0 ≤ u ∧ u < 2 ^ m) (ha : 0 ≤ a ∧ a < m) (hT : ∀ x : Int, 0 ≤ x → x < m → sf_bt u x = false → 0 ≤ sf_T g (sf_or u x) x ∧ sf_T g (sf_or u x) x ≤ 60 * (128 - sf_or u x)) (q : ∀ r, sf_R1 m (sf_dd W p) (fun v y => if v = u ∧ y = a then r else sf_T g v y) u a → Q (some (iq_i r)) g l) : iq_P N xs 279 0 [some (iq_r 35), some (iq_i u), some (iq_i a), none, none, none] [] g l Q := by
  have p2 := sf_p2 hm
  refine B279_35 _ _ _ _ (sp279_p hk hm hp hW hu ha hT (fun v hv => q _ ?_) m 0 (-1) none (by omega) (.inl ⟨rfl, fun x y1 y2 => by omega⟩) (by omega))
  have tv : ∀ r x : Int, 0 ≤ x → x < m → sf_bt u x = false → (fun v' y => if v' = u ∧ y = a then r else sf_T g v' y) (sf_or u x) x = sf_T g (sf_or u x) x := fun r x y1 y2 y3 => by
    have := sf_c6 (u := u) (k := x) (by omega) (by omega) y3
    try dsimp only
    rw [if_neg (by omega)]
  unfold sf_R1
  rw [show (fun v' y => if v' = u ∧ y = a then (if v = -1 then 0 else v) else sf_T g v' y) u a = if v = -1 then 0 else v by simp]
  rcases hv with ⟨h1, h2⟩ | ⟨h1, h2, h3⟩
  · rw [if_pos h1]
    refine ⟨by omega, fun _ => rfl, fun x y1 y2 y3 => ?_, fun ⟨x, y1, y2, y3⟩ => ?_⟩
    · rw [h2 x y1 y2] at y3; cases y3
    · rw [h2 x y1 y2] at y3; cases y3
  · obtain ⟨x, x1, x2, x3⟩ := h2
    have tR := hT x x1.1 x1.2 x2
    have dR := sf_ddR (hW a ha.1 ha.2) (hW x x1.1 x1.2) hp.2
    have ol := sf_c6 (u := u) (k := x) (by omega) (by omega) x2
    rw [if_neg (by omega)]
    refine ⟨by omega, fun z => ?_, fun y y1 y2 y3 => ?_, fun _ => ⟨x, x1.1, x1.2, x2, ?_⟩⟩
    · rw [z x x1.1 x1.2] at x2; cases x2
    · rw [tv v y y1 y2 y3]; exact h3 y y1 y2 y3
    · rw [tv v x x1.1 x1.2 x2]; exact x3
/-- the table is filled, the fullest rows first -/
theorem sp282_b {u : Nat} {S : Int64} (hm : m ≤ 7) (hp : 2 ≤ p ∧ p ≤ 60) (hW : ∀ i : Int, 0 ≤ i → i < m → 0 ≤ W i ∧ W i < p) (hu : 0 < (u : Int) ∧ (u : Int) < 2 ^ m) (q : ∀ G : iq_I, (∀ j, ¬ j = 38 → G j = g j) → (∀ v y : Int, (u : Int) ≤ v → v < 2 ^ m → 0 ≤ y → y < m → sf_R1 m (sf_dd W p) (sf_T G) v y) → iq_P N xs 282 74 [some (iq_r 35), some (iq_l S), none, some (iq_i p), some (iq_i (u + (-1))), some (iq_i m)] [] G l Q) (n : Nat) : ∀ (a : Nat) (G : iq_I), a + n = m → sf_WK G m p W → (∀ j, ¬ j = 38 → G j = g j) → (∀ v y : Int, (u : Int) < v → v < 2 ^ m → 0 ≤ y → y < m → sf_R1 m (sf_dd W p) (sf_T G) v y) → (∀ y : Int, 0 ≤ y → y < a → sf_R1 m (sf_dd W p) (sf_T G) u y) → iq_P N xs 282 82 [some (iq_r 35), some (iq_l S), none, some (iq_i p), some (iq_i u), some (iq_i a)] [] G l Q := by
  have p2 := sf_p2 hm
  induction n with
  | zero =>
    intro a G ha hk b1 b2 b3
    have am : a = m := by omega
    subst am
    refine B282_p82_35 _ _ _ _ _ _ ?_
    rw [hk.1]
    refine ⟨by omega, fun _ => q G b1 (fun v y c1 c2 c3 c4 => ?_), fun h => by omega⟩
    by_cases e : v = u
    · rw [e]; exact b3 y c3 c4
    · exact b2 v y (by omega) c2 c3 c4
  | succ n ih =>
    intro a G ha hk b1 b2 b3
    refine B282_p82_35 _ _ _ _ _ _ ?_
    rw [hk.1]
    refine ⟨by omega, fun h => by omega, fun _ => ?_⟩
    refine sp279 hk hm hp hW (by omega) (by omega) (fun x y1 y2 y3 => ?_) (fun r hr => ⟨_, rfl, B280_35 _ _ _ _ _ ⟨by omega, fun h => by omega, fun _ => ⟨by omega, fun h => by omega, fun _ => ⟨by omega, rfl, ?_⟩⟩⟩⟩)
    · have ol := sf_or_lt (m := m) (u := u) (k := x) (by omega) ⟨y1, y2⟩
      exact (b2 _ x (sf_c6 (by omega) (by omega) y3) ol.1 y1 y2).1
    · have tn : ∀ v y : Int, 0 ≤ y → y < m → ¬ (v = u ∧ y = a) → sf_T (iq_uz G 38 ((u : Int) * 7 + a) r) v y = sf_T G v y := fun v y y1 y2 y3 => by
        unfold sf_T
        have : ¬ v * 7 + y = (u : Int) * 7 + a := by omega
        simp [iq_uz, this]
      have t0 : sf_T (iq_uz G 38 ((u : Int) * 7 + a) r) u a = r := by unfold sf_T; simp [iq_uz]
      rw [show ((a : Nat) : Int) + 1 = ((a + 1 : Nat) : Int) by omega]
      refine ih (a + 1) _ (by omega) ⟨?_, ?_, fun i y1 y2 => ?_⟩ (fun j hj => by rw [sf_uzn _ hj]; exact b1 j hj) (fun v y c1 c2 c3 c4 => ?_) (fun y c1 c2 => ?_)
      · rw [sf_uzn _ (by decide)]; exact hk.1
      · rw [sf_uzn _ (by decide)]; exact hk.2.1
      · rw [sf_uzn _ (by decide)]; exact hk.2.2 i y1 y2
      · exact (b2 v y c1 c2 c3 c4).congr hm (by omega) (tn v y c3 c4 (by omega)) (fun w x z1 z2 z3 => tn w x z2 z3 (by omega))
      · by_cases e : y = a
        · rw [e]
          refine hr.congr hm (by omega) ?_ (fun w x z1 z2 z3 => ?_)
          · rw [t0]; simp
          · rw [tn w x z2 z3 (by omega), if_neg (by omega)]
        · exact (b3 y c1 (by omega)).congr hm (by omega) (tn u y c1 (by omega) (by omega)) (fun w x z1 z2 z3 => tn w x z2 z3 (by omega))
theorem sp282_a {S : Int64} (hm : m ≤ 7) (hp : 2 ≤ p ∧ p ≤ 60) (hW : ∀ i : Int, 0 ≤ i → i < m → 0 ≤ W i ∧ W i < p) (q : ∀ G : iq_I, (∀ j, ¬ j = 38 → G j = g j) → sf_RC m (sf_dd W p) (sf_T G) → iq_P N xs 281 0 [some (iq_r 35), none, none, none, none] [] G l (fun r g1 l2 => r = none ∧ Q none g1 l2)) (n : Nat) : ∀ (G : iq_I) (d5 : Option iq_V), (n : Int) < 2 ^ m → sf_WK G m p W → (∀ j, ¬ j = 38 → G j = g j) → (∀ v y : Int, (n : Int) < v → v < 2 ^ m → 0 ≤ y → y < m → sf_R1 m (sf_dd W p) (sf_T G) v y) → iq_P N xs 282 74 [some (iq_r 35), some (iq_l S), none, some (iq_i p), some (iq_i n), d5] [] G l Q := by
  have p2 := sf_p2 hm
  induction n with
  | zero =>
    intro G d5 hn hk b1 b2
    exact B282_p74_35 _ _ _ _ _ _ ⟨by omega, fun _ => q G b1 (fun u a c1 c2 c3 c4 => b2 u a (by omega) c2 c3 c4), fun h => by omega⟩
  | succ n ih =>
    intro G d5 hn hk b1 b2
    refine B282_p74_35 _ _ _ _ _ _ ⟨by omega, fun h => by omega, fun _ => ?_⟩
    refine sp282_b (g := g) (u := n + 1) hm hp hW (by omega) (fun G' c1 c2 => ?_) m 0 G (by omega) hk b1 b2 (fun y c1 c2 => by omega)
    rw [show ((n + 1 : Nat) : Int) + -1 = (n : Int) by omega]
    refine ih G' _ (by omega) ⟨?_, ?_, fun i y1 y2 => ?_⟩ c1 (fun v y z1 z2 z3 z4 => c2 v y (by omega) z2 z3 z4)
    · rw [c1 35 (by decide), ← b1 35 (by decide)]; exact hk.1
    · rw [c1 35 (by decide), ← b1 35 (by decide)]; exact hk.2.1
    · rw [c1 36 (by decide), ← b1 36 (by decide)]; exact hk.2.2 i y1 y2
/-- the row is put in order -/
theorem sp281_x {u a : Int} {k : Nat} (hk : sf_WK g m p W) (hm : m ≤ 7) (hp : 2 ≤ p ∧ p ≤ 60) (hW : ∀ i : Int, 0 ≤ i → i < m → 0 ≤ W i ∧ W i < p) (hR : sf_R1 m (sf_dd W p) (sf_T g) u a) (hRC : sf_RC m (sf_dd W p) (sf_T g)) (hc : ∃ x : Int, 0 ≤ x ∧ x < m ∧ sf_bt u x = false) (hu : 0 < u ∧ u < 2 ^ m) (ha : 0 ≤ a ∧ a < m) (kk : k < m) (q : iq_P N xs 281 93 [some (iq_r 35), some (iq_i (sf_or u (sf_wx m (sf_dd W p) (sf_T g) u a))), some (iq_i a), some (iq_i k), some (iq_i (sf_wx m (sf_dd W p) (sf_T g) u a))] [] (iq_uz g 37 k (W (sf_wx m (sf_dd W p) (sf_T g) u a))) l Q) (n : Nat) : ∀ y : Nat, (y : Int) + n = sf_wx m (sf_dd W p) (sf_T g) u a → iq_P N xs 281 29 [some (iq_r 35), some (iq_i u), some (iq_i a), some (iq_i k), some (iq_i y)] [] g l Q := by
  have p2 := sf_p2 hm
  obtain ⟨x1, x2, x3, x4⟩ := sf_wxs hR hc
  have e3 := hk.1
  have uR : 60 * (128 - u) ≤ 100000 := by omega
  have costR : ∀ x : Int, 0 ≤ x → x < m → sf_bt u x = false → 0 ≤ sf_dd W p a x + sf_T g (sf_or u x) x ∧ sf_dd W p a x + sf_T g (sf_or u x) x ≤ 100000 := fun x y1 y2 y3 => by
    have ol := sf_or_lt (m := m) (u := u) (k := x) (by omega) ⟨y1, y2⟩
    have o6 := sf_c6 (u := u) (k := x) (by omega) (by omega) y3
    have tR := (hRC _ x (by omega) ol.1 y1 y2).1
    have dR := sf_ddR (hW a ha.1 ha.2) (hW x y1 y2) hp.2
    omega
  have tR := hR.1
  induction n with
  | zero =>
    intro y hy
    have yx : (y : Int) = sf_wx m (sf_dd W p) (sf_T g) u a := by omega
    rw [← yx] at q x1 x2 x3
    have cR := costR y x1.1 x1.2 x2
    refine B281_p29_35 _ _ _ _ _ _ ?_
    rw [e3, sf_c1 (by omega) (by omega), hk.2.2 y x1.1 x1.2]
    refine ⟨by omega, fun _ => ⟨by omega, by omega, q⟩, fun _ => ?_⟩
    refine sp74 (by omega) (fun c => ?_) (fun c => ⟨_, rfl, by omega, fun h => absurd rfl h, fun _ => ?_⟩)
    · rw [sf_c2 (by omega) (by omega), x2] at c; cases c
    · refine sp278 hk hm hp hW (by omega) ha x1 ⟨_, rfl, sp277 (by omega) (by omega) ⟨_, rfl, by omega, fun _ => ⟨by omega, by omega, ?_⟩, fun h => absurd x3 h⟩⟩
      rw [hk.2.2 y x1.1 x1.2]
      exact q
  | succ n ih =>
    intro y hy
    have nx := ih (y + 1) (by omega)
    rw [show ((y + 1 : Nat) : Int) = (y : Int) + 1 by omega] at nx
    refine B281_p29_35 _ _ _ _ _ _ ?_
    rw [e3]
    refine ⟨by omega, fun h => by omega, fun _ => ?_⟩
    refine sp74 (by omega) (fun c => ⟨_, rfl, by omega, fun _ => nx, fun h => by omega⟩) (fun c => ⟨_, rfl, by omega, fun h => absurd rfl h, fun _ => ?_⟩)
    rw [sf_c2 (by omega) (by omega)] at c
    have cR := costR y (by omega) (by omega) c
    exact sp278 hk hm hp hW (by omega) ha (by omega) ⟨_, rfl, sp277 (by omega) (by omega) ⟨_, rfl, by omega, fun h => absurd h (x4 y (by omega) (by omega) c), fun _ => nx⟩⟩
theorem sp281_p (hm : m ≤ 7) (hp : 2 ≤ p ∧ p ≤ 60) (hW : ∀ i : Int, 0 ≤ i → i < m → 0 ≤ W i ∧ W i < p) {T : Int → Int → Int} (hRC : sf_RC m (sf_dd W p) T) (hg : ∀ v y, sf_T g v y = T v y) (hk0 : sf_WK g m p W) (q : ∀ G : iq_I, (∀ j, ¬ j = 37 → G j = g j) → (∀ i : Nat, i < m → G 37 i = W (sf_wg m (sf_dd W p) T i 1 0)) → Q none G l) (n : Nat) : ∀ (k : Nat) (G : iq_I) (u a : Int) (d4 : Option iq_V), 1 ≤ k → k + n = m → (∀ j, ¬ j = 37 → G j = g j) → (∀ i : Nat, i < k → G 37 i = W (sf_wg m (sf_dd W p) T i 1 0)) → (∀ j, sf_wg m (sf_dd W p) T (k - 1 + j) 1 0 = sf_wg m (sf_dd W p) T j u a) → (0 < u ∧ u < 2 ^ m) → (0 ≤ a ∧ a < m) → iq_cn (fun x => !sf_bt u x) m = m - k → iq_P N xs 281 18 [some (iq_r 35), some (iq_i u), some (iq_i a), some (iq_i k), d4] [] G l Q := by
  have p2 := sf_p2 hm
  induction n with
  | zero =>
    intro k G u a d4 k1 kn b1 b2 b3 hu ha hc
    refine B281_p18_35 _ _ _ _ _ _ ?_
    rw [b1 35 (by decide), hk0.1]
    exact ⟨by omega, fun _ => q G b1 (fun i hi => b2 i (by omega)), fun h => by omega⟩
  | succ n ih =>
    intro k G u a d4 k1 kn b1 b2 b3 hu ha hc
    have tg : sf_T G = T := by
      funext v y
      unfold sf_T
      rw [b1 38 (by decide)]
      exact hg v y
    have hk : sf_WK G m p W := by
      refine ⟨?_, ?_, fun i y1 y2 => ?_⟩
      · rw [b1 35 (by decide)]; exact hk0.1
      · rw [b1 35 (by decide)]; exact hk0.2.1
      · rw [b1 36 (by decide)]; exact hk0.2.2 i y1 y2
    have hR := hRC u a hu.1 hu.2 ha.1 ha.2
    have ex := sf_left (m := m) (u := u) (by omega)
    obtain ⟨x1, x2, x3, x4⟩ := sf_wxs hR ex
    have ol := sf_or_lt (m := m) (u := u) (k := sf_wx m (sf_dd W p) T u a) (by omega) x1
    have o6 := sf_c6 (u := u) (k := sf_wx m (sf_dd W p) T u a) (by omega) (by omega) x2
    have cS := sf_leftS (m := m) (u := u) (x := sf_wx m (sf_dd W p) T u a) (by omega) x1 x2
    refine B281_p18_35 _ _ _ _ _ _ ?_
    rw [hk.1]
    refine ⟨by omega, fun h => by omega, fun _ => ?_⟩
    have main := sp281_x (N := N) (xs := xs) (Q := Q) (l := l) (g := G) (u := u) (a := a) (k := k) hk hm hp hW (by rw [tg]; exact hR) (by rw [tg]; exact hRC) ex hu ha (by omega) (by
      rw [tg]
      refine B281_p93_35 _ _ _ _ _ _ ?_
      rw [show ((k : Nat) : Int) + 1 = ((k + 1 : Nat) : Int) by omega]
      refine ih (k + 1) _ _ _ _ (by omega) (by omega) (fun j hj => by rw [sf_uzn _ hj]; exact b1 j hj) (fun i hi => ?_) (fun j => ?_) (by omega) x1 (by omega)
      · have e1 := b3 1
        rw [show k - 1 + 1 = k by omega] at e1
        by_cases e : i = k
        · subst e
          rw [e1]
          simp [iq_uz, sf_wg]
        · have : ¬ (i : Int) = k := by omega
          have := b2 i (by omega)
          simp [iq_uz, *]
      · have := b3 (j + 1)
        rw [show k - 1 + (j + 1) = k + 1 - 1 + j by omega, sf_wg] at this
        exact this) (sf_wx m (sf_dd W p) (sf_T G) u a).toNat 0 (by rw [tg]; omega)
    exact main
end WC
