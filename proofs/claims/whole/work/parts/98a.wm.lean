/-! way and wayAt in the model: the search. -/
theorem sp101 {N : Nat} {xs : Nat → Int32} {Q : iq_T} {g : iq_I} {l : iq_J} {u k : Int} (hu : 0 ≤ u ∧ u < 128) (hk : 0 ≤ k ∧ k < 7) (q1 : sf_bt u k = true → Q (some (iq_i 1)) g l) (q0 : sf_bt u k = false → Q (some (iq_i 0)) g l) : iq_P N xs 101 0 [some (iq_r 77), some (iq_i u), some (iq_i k)] [] g l Q := by
  refine B101_77 _ _ _ _ ?_
  rw [sf_c5 hu hk]
  rcases hb : sf_bt u k with _ | _
  · rw [if_neg (by decide)]
    exact ⟨by omega, fun _ => q0 hb, fun h => by omega⟩
  · rw [if_pos rfl]
    exact ⟨by omega, fun h => absurd rfl h, fun _ => q1 hb⟩
/-- what the search keeps -/
def sf_WM (g0 G : iq_I) : Prop := (∀ j, ¬ j = 77 → ¬ (91 ≤ j ∧ j ≤ 93) → G j = g0 j) ∧ (∀ k, ¬ k = 36 → G 77 k = g0 77 k)
theorem sf_WM.uz {g0 G : iq_I} (h : sf_WM g0 G) {j : Nat} {k v : Int} (hj : (91 ≤ j ∧ j ≤ 93) ∨ (j = 77 ∧ k = 36)) : sf_WM g0 (iq_uz G j k v) := by
  refine ⟨fun i y1 y2 => ?_, fun i y => ?_⟩
  · rw [sf_uzn _ (by omega)]; exact h.1 i y1 y2
  · rw [← h.2 i y]; unfold iq_uz; rw [if_neg (by omega)]
/-- a row is better, or none was there -/
def sf_bet (s v : Int) : Prop := s = -1 ∨ v < s
/-- behind all rows that begin so -/
def sf_PE (m L : Nat) (W : Int → Int) (d T : Int → Int → Int) (u a far : Int) (G G' : iq_I) : Prop := (¬ sf_bet (G 77 36) (far + T u a) ∧ G' 77 36 = G 77 36 ∧ (∀ i : Nat, i < m → G' 93 i = G 93 i)) ∨ (sf_bet (G 77 36) (far + T u a) ∧ G' 77 36 = far + T u a ∧ (∀ i : Nat, i < m → G' 93 i = if i < L then W (G 91 i) else W (sf_wg m d T (i - L + 1) u a)))
/-- behind those that go on with one above c -/
def sf_PS (m L : Nat) (W : Int → Int) (d T : Int → Int → Int) (u a far c : Int) (G G' : iq_I) : Prop := ((∀ x : Int, c < x → x < m → sf_bt u x = false → ¬ sf_bet (G 77 36) (far + (d a x + T (sf_or u x) x))) ∧ G' 77 36 = G 77 36 ∧ (∀ i : Nat, i < m → G' 93 i = G 93 i)) ∨ (∃ x : Int, (c < x ∧ x < m) ∧ sf_bt u x = false ∧ sf_bet (G 77 36) (far + (d a x + T (sf_or u x) x)) ∧ (∀ y : Int, c < y → y < m → sf_bt u y = false → d a x + T (sf_or u x) x ≤ d a y + T (sf_or u y) y) ∧ (∀ y : Int, c < y → y < x → sf_bt u y = false → d a x + T (sf_or u x) x < d a y + T (sf_or u y) y) ∧ G' 77 36 = far + (d a x + T (sf_or u x) x) ∧ (∀ i : Nat, i < m → G' 93 i = if i < L then W (G 91 i) else if i = L then W x else W (sf_wg m d T (i - L) (sf_or u x) x)))
theorem sf_PSE {m L : Nat} {W : Int → Int} {d T : Int → Int → Int} {u a far : Int} {G G' : iq_I} (h : sf_PS m L W d T u a far 0 G G') (hR : sf_R1 m d T u a) (h0 : sf_bt u 0 = true) (ex : ∃ x : Int, 0 ≤ x ∧ x < m ∧ sf_bt u x = false) : sf_PE m L W d T u a far G G' := by
  obtain ⟨x0, y1, y2, y3, y4⟩ := hR.2.2.2 ex
  have pos : ∀ x : Int, 0 ≤ x → sf_bt u x = false → 0 < x := fun x z1 z2 => by
    by_cases e : x = 0
    · rw [e, h0] at z2; cases z2
    · omega
  rcases h with ⟨h1, h2, h3⟩ | ⟨x, h1, h2, h3, h4, h5, h6, h7⟩
  · refine .inl ⟨?_, h2, h3⟩
    rw [← y4]
    exact h1 x0 (pos x0 y1 y3) y2 y3
  · have e1 := h4 x0 (pos x0 y1 y3) y2 y3
    have e2 := hR.2.2.1 x (by omega) h1.2 h2
    have e : d a x + T (sf_or u x) x = T u a := by omega
    have wx : sf_wx m d T u a = x := sf_wxe ⟨by omega, h1.2⟩ h2 e (fun y z1 z2 z3 => by
      have := h5 y (pos y z1 z3) z2 z3
      omega)
    refine .inr ⟨by rw [← e]; exact h3, by rw [h6, e], fun i hi => ?_⟩
    rw [h7 i hi]
    by_cases c : i < L
    · rw [if_pos c, if_pos c]
    · rw [if_neg c, if_neg c]
      by_cases c2 : i = L
      · rw [if_pos c2, c2, Nat.sub_self, sf_wg, sf_wg, wx]
      · rw [if_neg c2, sf_wg, wx]
section WM
variable {N : Nat} {xs : Nat → Int32} {Q : iq_T} {l : iq_J} {g0 : iq_I} {m : Nat} {p : Int} {W : Int → Int} {T : Int → Int → Int}
theorem sp286 {a x : Int} {g : iq_I} (hp : 2 ≤ p ∧ p ≤ 60) (h1 : g 78 1 = p) (ha : 0 ≤ W a ∧ W a < p) (hx : 0 ≤ W x ∧ W x < p) (q : Q (some (iq_i (sf_dd W p a x))) g l) : iq_P N xs 286 0 [some (iq_r 77), some (iq_i (W a)), some (iq_i (W x))] [] g l Q := by
  have e : min ((W a - W x) % p) ((W x - W a) % p) = sf_dd W p a x := by
    unfold sf_dd
    rcases Int.lt_trichotomy (W a) (W x) with c | c | c
    · have e1 : (W a - W x) % p = W a - W x + p := by
        rw [← Int.add_emod_right]
        exact Int.emod_eq_of_lt (by omega) (by omega)
      have e2 : (W x - W a) % p = W x - W a := Int.emod_eq_of_lt (by omega) (by omega)
      rw [e1, e2]; omega
    · rw [c, Int.sub_self, Int.zero_emod]
      omega
    · have e1 : (W x - W a) % p = W x - W a + p := by
        rw [← Int.add_emod_right]
        exact Int.emod_eq_of_lt (by omega) (by omega)
      have e2 : (W a - W x) % p = W a - W x := Int.emod_eq_of_lt (by omega) (by omega)
      rw [e1, e2]; omega
  have r1 := Int.emod_nonneg (W a - W x) (show p ≠ 0 by omega)
  have r2 := Int.emod_lt_of_pos (W a - W x) (show 0 < p by omega)
  have r3 := Int.emod_nonneg (W x - W a) (show p ≠ 0 by omega)
  have r4 := Int.emod_lt_of_pos (W x - W a) (show 0 < p by omega)
  refine B286_77 _ _ _ _ ?_
  rw [h1]
  refine sp111 (by omega) (by omega) ⟨_, rfl, ?_⟩
  rw [h1]
  refine sp111 (by omega) (by omega) ⟨_, rfl, sp95 (by omega) (by omega) ⟨_, rfl, ?_⟩⟩
  rw [e]
  exact q
/-- a row is whole -/
theorem sp285_p {g : iq_I} (hm : m ≤ 7) (hK : sf_WM g0 g) (h35 : g0 77 35 = m) (h90 : ∀ i : Int, 0 ≤ i → i < m → g0 90 i = W i) (h91 : ∀ i : Int, 0 ≤ i → i < m → 0 ≤ g 91 i ∧ g 91 i < m) (q : ∀ G : iq_I, (∀ j, ¬ j = 93 → G j = g j) → (∀ i : Nat, i < m → G 93 i = W (g 91 i)) → Q none G l) (n : Nat) : ∀ (k : Nat) (G : iq_I), k + n = m → (∀ j, ¬ j = 93 → G j = g j) → (∀ i : Nat, i < k → G 93 i = W (g 91 i)) → iq_P N xs 285 40 [some (iq_r 77), some (iq_i k)] [] G l Q := by
  have e35 : g 77 35 = m := by rw [hK.2 35 (by decide)]; exact h35
  induction n with
  | zero =>
    intro k G hn b1 b2
    refine B285_p40_77 _ _ _ ?_
    rw [b1 77 (by decide), e35]
    exact ⟨by omega, fun _ => q G b1 (fun i hi => b2 i (by omega)), fun h => by omega⟩
  | succ n ih =>
    intro k G hn b1 b2
    have r := h91 k (by omega) (by omega)
    refine B285_p40_77 _ _ _ ?_
    rw [b1 77 (by decide), e35, b1 91 (by decide), b1 90 (by decide), hK.1 90 (by decide) (by decide), h90 _ r.1 r.2]
    refine ⟨by omega, fun h => by omega, fun _ => ⟨by omega, by omega, by omega, ?_⟩⟩
    rw [show ((k : Nat) : Int) + 1 = ((k + 1 : Nat) : Int) by omega]
    refine ih (k + 1) _ (by omega) (fun j hj => by rw [sf_uzn _ hj]; exact b1 j hj) (fun i hi => ?_)
    by_cases e : i = k
    · subst e; simp [iq_uz]
    · have : ¬ (i : Int) = k := by omega
      have := b2 i (by omega)
      simp [iq_uz, *]
theorem sp285 {g : iq_I} {far : Int} (hm : m ≤ 7) (hK : sf_WM g0 g) (h35 : g0 77 35 = m) (h90 : ∀ i : Int, 0 ≤ i → i < m → g0 90 i = W i) (h91 : ∀ i : Int, 0 ≤ i → i < m → 0 ≤ g 91 i ∧ g 91 i < m) (hf : g 92 m = far) (fR : 0 ≤ far ∧ far ≤ 100000) (sR : -1 ≤ g 77 36 ∧ g 77 36 ≤ 100000) (q : ∀ G : iq_I, sf_WM g0 G → (∀ j, ¬ j = 77 → ¬ j = 93 → G j = g j) → ((¬ sf_bet (g 77 36) far ∧ G 77 36 = g 77 36 ∧ (∀ i : Nat, i < m → G 93 i = g 93 i)) ∨ (sf_bet (g 77 36) far ∧ G 77 36 = far ∧ (∀ i : Nat, i < m → G 93 i = W (g 91 i)))) → Q none G l) : iq_P N xs 285 0 [some (iq_r 77), none] [] g l Q := by
  have e35 : g 77 35 = m := by rw [hK.2 35 (by decide)]; exact h35
  have go : sf_bet (g 77 36) far → iq_P N xs 285 40 [some (iq_r 77), some (iq_i 0)] [] (iq_uz g 77 36 far) l Q := fun c => by
    have main := sp285_p (N := N) (xs := xs) (Q := Q) (l := l) (g := iq_uz g 77 36 far) (W := W) hm (hK.uz (by omega)) h35 h90 (fun i y1 y2 => by rw [sf_uzn _ (by decide)]; exact h91 i y1 y2) (fun G b1 b2 => q G ⟨fun j y1 y2 => ?_, fun k y => ?_⟩ (fun j y1 y2 => ?_) (.inr ⟨c, ?_, fun i hi => ?_⟩)) m 0 (iq_uz g 77 36 far) (by omega) (fun _ _ => rfl) (fun i hi => by omega)
    · exact main
    · rw [b1 j (by omega), sf_uzn _ y1]; exact hK.1 j y1 y2
    · rw [b1 77 (by decide), ← hK.2 k y]; simp [iq_uz, y]
    · rw [b1 j y2, sf_uzn _ y1]
    · rw [b1 77 (by decide)]; simp [iq_uz]
    · rw [b2 i hi, sf_uzn _ (by decide)]
  refine B285_77 _ _ ?_
  rw [e35, hf]
  refine ⟨by omega, fun c => ⟨by omega, go (.inl c)⟩, fun c => ⟨by omega, by omega, fun d => ⟨by omega, go (.inr d)⟩, fun d => q g hK (fun _ _ _ => rfl) (.inl ⟨?_, rfl, fun _ _ => rfl⟩)⟩⟩
  unfold sf_bet
  omega
end WM
