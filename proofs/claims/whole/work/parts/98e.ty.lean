/-! Texts: next in the class, ahead in the model. -/
theorem sp56x {N : Nat} {xs : Nat → Int32} {Q : iq_T} {g : iq_I} {l : iq_J} {A : Int → Int} {n k : Int} (h : sf_AB g A n) (hk : 0 ≤ k ∧ k ≤ 900) (q : ∀ c : Int, (k < 900 → c = A k) → (0 ≤ c ∧ c ≤ 255) → Q (some (iq_i c)) g l) : iq_P N xs 56 0 [some (iq_r 10), some (iq_i k)] [] g l Q := by
  by_cases c : k < 900
  · exact sp56 h (by omega) (q _ (fun _ => rfl) (h.r hk.1 c))
  · exact B56_10 _ _ _ ⟨by omega, fun h => by omega, fun _ => ⟨by omega, fun _ => q 0 (fun z => absurd z c) (by omega), fun h => by omega⟩⟩
theorem sf_tsR {A : Int → Int} {n p : Int} (hp : 0 ≤ p ∧ p ≤ n) : p ≤ sf_ts A n p ∧ sf_ts A n p ≤ n := ⟨(sf_endR sf_bl A n p).1, (sf_endR sf_bl A n p).2 hp.2⟩
theorem sf_teR {A : Int → Int} {n p : Int} (hp : 0 ≤ p ∧ p ≤ n) : sf_ts A n p ≤ sf_te A n p ∧ sf_te A n p ≤ n ∧ (¬ sf_tk A n p = 0 → sf_ts A n p < n ∧ sf_ts A n p < sf_te A n p) := by
  have s := sf_tsR (A := A) hp
  unfold sf_te sf_te1 sf_tk sf_tk1
  by_cases c0 : n ≤ sf_ts A n p
  · rw [if_pos c0, if_pos c0]
    exact ⟨by omega, by omega, fun h => absurd rfl h⟩
  · rw [if_neg c0, if_neg c0]
    by_cases c1 : sf_lt (A (sf_ts A n p)) = true
    · rw [if_pos c1]
      have e := sf_end_go (n := n) (P := sf_lt) (A := A) (k := sf_ts A n p) (by omega) c1
      have r := sf_endR sf_lt A n (sf_ts A n p + 1)
      rw [← e] at r
      have := r.2 (by omega)
      exact ⟨by omega, by omega, fun _ => ⟨by omega, by omega⟩⟩
    · rw [if_neg c1]
      by_cases c2 : sf_di (A (sf_ts A n p)) = true
      · rw [if_pos c2]
        have e := sf_end_go (n := n) (P := sf_di) (A := A) (k := sf_ts A n p) (by omega) c2
        have r := sf_endR sf_di A n (sf_ts A n p + 1)
        rw [← e] at r
        have := r.2 (by omega)
        exact ⟨by omega, by omega, fun _ => ⟨by omega, by omega⟩⟩
      · rw [if_neg c2]
        exact ⟨by omega, by omega, fun _ => ⟨by omega, by omega⟩⟩
theorem sp64_p {N : Nat} {xs : Nat → Int32} {Q : iq_T} {l : iq_J} {g : iq_I} {A : Int → Int} {n : Int} (h : sf_AB g A n) (f : Nat) : ∀ (G : iq_I) (k : Int), sf_RK g G 6 → G 10 3 = k → (n - k).toNat = f → 0 ≤ k ∧ k ≤ n → (∀ G' : iq_I, sf_RK g G' 6 → G' 10 3 = sf_end sf_bl A n k → iq_P N xs 64 38 [some (iq_r 10), none] [] G' l Q) → iq_P N xs 64 0 [some (iq_r 10), none] [] G l Q := by
  have hn := h.2.1
  induction f with
  | zero =>
    intro G k hK e hf hk q
    have hG := h.k hK
    rw [sf_end_stop (by omega)] at q
    refine B64_10 _ _ ?_
    rw [e, hG.1]
    exact ⟨by omega, fun _ => q G hK e, fun h => by omega⟩
  | succ f ih =>
    intro G k hK e hf hk q
    have hG := h.k hK
    have cr := hG.r (k := k) hk.1 (by omega)
    refine B64_10 _ _ ?_
    rw [e, hG.1]
    refine ⟨by omega, fun h => by omega, fun _ => sp56 hG (by omega) ⟨_, rfl, sp57 cr (fun t => ⟨_, rfl, by omega, fun h => by omega, fun _ => ?_⟩) (fun t => ⟨_, rfl, by omega, fun _ => ?_, fun h => absurd rfl h⟩)⟩⟩
    · rw [e]
      exact ih _ (k + 1) (hK.uz (by omega)) (by simp [iq_uz]) (by omega) (by omega) (fun G' w1 w2 => q G' w1 (by rw [w2, sf_end_go (by omega) t]))
    · rw [sf_end_stop (fun z => by rw [t] at z; exact absurd z.2 (by decide))] at q
      exact q G hK e
theorem sp64 {N : Nat} {xs : Nat → Int32} {Q : iq_T} {g : iq_I} {l : iq_J} {A : Int → Int} {n p : Int} (h : sf_AB g A n) (e : g 10 3 = p) (hp : 0 ≤ p ∧ p ≤ n) (q1 : ¬ sf_tk A n p = 4 → ∀ g' : iq_I, sf_RK g g' 6 → g' 10 3 = sf_te A n p → g' 10 4 = sf_tk A n p → g' 10 5 = sf_ts A n p → (sf_tk A n p = 2 ∨ sf_tk A n p = 3 → g' 10 6 = sf_tv A n p) → Q (some (iq_i 1)) g' l) (q0 : sf_tk A n p = 4 → ∀ g' : iq_I, sf_RK g g' 8 → g' 10 7 = 1 → g' 10 8 = sf_ts A n p → Q (some (iq_i 0)) g' l) : iq_P N xs 64 0 [some (iq_r 10), none] [] g l Q := by
  have hn := h.2.1
  have sR := sf_tsR (A := A) hp
  refine sp64_p h _ g p (.refl _ _) e rfl hp (fun G hK e3 => ?_)
  have e3' : G 10 3 = sf_ts A n p := e3
  have hG := h.k hK
  have fin : ∀ (G' : iq_I) (v1 : Int), sf_RK g G' 6 → (G' 10 3 = sf_te A n p ∨ sf_tk A n p = 4) → G' 10 4 = sf_tk A n p → G' 10 5 = sf_ts A n p → (sf_tk A n p = 2 ∨ sf_tk A n p = 3 → G' 10 6 = sf_tv A n p) → iq_P N xs 64 137 [some (iq_r 10), some (iq_i v1)] [] G' l Q := by
    intro G' v1 w1 w2 w3 w4 w5
    have kR : 0 ≤ sf_tk A n p ∧ sf_tk A n p ≤ 4 := by
      unfold sf_tk sf_tk1
      split
      · omega
      split
      · omega
      split
      · split <;> omega
      split <;> omega
    refine B64_p137_10 _ _ _ ?_
    rw [w3]
    refine ⟨by omega, fun c => B64_p153_10 _ _ _ (q1 c G' w1 (w2.resolve_right c) w3 w4 w5), fun c => B64_p145_10 _ _ _ (B63_10 _ _ _ ⟨_, rfl, by omega, fun _ => q0 c _ ?_ ?_ ?_, fun h => absurd rfl h⟩)⟩
    · exact ((w1.trans (.refl _ 8) (by omega)).uz (by omega)).uz (by omega)
    · simp [iq_uz]
    · rw [← w4]; simp [iq_uz]
  have hK5 : sf_RK g (iq_uz G 10 5 (sf_ts A n p)) 6 := hK.uz (by omega)
  have hG5 := h.k hK5
  refine B64_p38_10 _ _ ?_
  rw [e3']
  refine sp56x hG5 (by omega) (fun c hc cr => ⟨_, rfl, ?_⟩)
  rw [show (iq_uz G 10 5 (sf_ts A n p)) 10 3 = sf_ts A n p by rw [← e3']; simp [iq_uz], hG5.1]
  refine ⟨by omega, fun lt => ?_, fun ge => fin _ _ (hK5.uz (by omega)) (.inl ?_) ?_ (by simp [iq_uz]) (fun z => ?_)⟩
  · have ca : c = A (sf_ts A n p) := hc (by omega)
    rw [ca] at cr
    rw [ca]
    refine sp58 cr (fun t => ⟨_, rfl, by omega, fun h => by omega, fun _ => ?_⟩) (fun t => ⟨_, rfl, by omega, fun _ => ?_, fun h => absurd rfl h⟩)
    · have hk : sf_tk A n p = 1 := by unfold sf_tk sf_tk1; rw [if_neg (by omega), if_pos t]
      refine B59_10 _ _ (sp59_p h _ _ (sf_ts A n p) (hK5.uz (by omega)) (by rw [← e3']; simp [iq_uz]) rfl (by omega) (fun G' w1 w2 w3 w4 => ⟨rfl, fin G' _ w1 (.inl ?_) ?_ ?_ (fun z => by omega)⟩))
      · rw [w2]; unfold sf_te sf_te1; rw [if_neg (by omega), if_pos t]
      · rw [w3, hk]; simp [iq_uz]
      · rw [w4]; simp [iq_uz]
    · have t' : ¬ sf_lt (A (sf_ts A n p)) = true := by rw [t]; decide
      refine sp60 cr (fun u => ⟨_, rfl, by omega, fun h => by omega, fun _ => ?_⟩) (fun u => ⟨_, rfl, by omega, fun _ => ?_, fun h => absurd rfl h⟩)
      · have hk : sf_tk A n p = if 4 < sf_end sf_di A n (sf_ts A n p) - sf_ts A n p then 4 else 2 := by unfold sf_tk sf_tk1; rw [if_neg (by omega), if_neg t', if_pos u]
        refine B61_10 _ _ (sp61_p h (s := sf_ts A n p) (by omega) _ _ (sf_ts A n p) ((hK5.uz (by omega)).uz (by omega)) (by rw [← e3']; simp [iq_uz]) (by simp [iq_uz]) (by simp [iq_uz]) rfl (by omega) (fun _ => by rw [Int.sub_self]; simp [iq_uz, sf_va]) (fun G' w1 w2 w3 w4 w5 => ⟨rfl, fin G' _ w1 (.inl ?_) ?_ w3 (fun z => ?_)⟩))
        · rw [w2]; unfold sf_te sf_te1; rw [if_neg (by omega), if_neg t', if_pos u]
        · rw [w4, hk]
        · have c4 : ¬ 4 < sf_end sf_di A n (sf_ts A n p) - sf_ts A n p := by
            intro c; rw [if_pos c] at hk; omega
          rw [w5 (by omega)]
          unfold sf_tv sf_tv1
          rw [if_pos u]
      · have u' : ¬ sf_di (A (sf_ts A n p)) = true := by rw [u]; decide
        refine sp62 cr (fun w => ⟨_, rfl, by omega, fun h => by omega, fun _ => ?_⟩) (fun w => ⟨_, rfl, by omega, fun _ => ?_, fun h => absurd rfl h⟩)
        · have hk : sf_tk A n p = 3 := by unfold sf_tk sf_tk1; rw [if_neg (by omega), if_neg t', if_neg u', if_pos w]
          refine B64_p109_10 _ _ _ (B64_p119_10 _ _ _ (fin _ _ (((hK5.uz (by omega)).uz (by omega)).uz (by omega)) (.inl ?_) ?_ ?_ (fun z => ?_)))
          · unfold sf_te sf_te1; rw [if_neg (by omega), if_neg t', if_neg u', ← e3']; simp [iq_uz]
          · rw [hk]; simp [iq_uz]
          · simp [iq_uz]
          · unfold sf_tv sf_tv1; rw [if_neg u']; simp [iq_uz]
        · have hk : sf_tk A n p = 4 := by unfold sf_tk sf_tk1; rw [if_neg (by omega), if_neg t', if_neg u', if_neg (by rw [w]; decide)]
          exact B64_p132_10 _ _ _ (fin _ _ (hK5.uz (by omega)) (.inr hk) (by rw [hk]; simp [iq_uz]) (by simp [iq_uz]) (fun z => by omega))
  · unfold sf_te sf_te1; rw [if_pos (by omega), ← e3']; simp [iq_uz]
  · unfold sf_tk sf_tk1; rw [if_pos (by omega)]; simp [iq_uz]
  · have hk : sf_tk A n p = 0 := by unfold sf_tk sf_tk1; rw [if_pos (by omega)]
    omega
/-! the model -/
def sf_MB (g : iq_I) (A : Int → Int) (n : Int) : Prop := g 77 10 = n ∧ (0 ≤ n ∧ n ≤ 900) ∧ (∀ k : Int, 0 ≤ k → k < n → iq_and (g 83 k) 255 = A k)
def sf_AK (g g' : iq_I) : Prop := (∀ j, ¬ j = 77 → g' j = g j) ∧ (∀ k, ¬ (11 ≤ k ∧ k ≤ 14) → g' 77 k = g 77 k)
theorem sf_AK.refl (g : iq_I) : sf_AK g g := ⟨fun _ _ => rfl, fun _ _ => rfl⟩
theorem sf_AK.uz {g g' : iq_I} (h : sf_AK g g') {k v : Int} (hk : 11 ≤ k ∧ k ≤ 14) : sf_AK g (iq_uz g' 77 k v) := by
  refine ⟨fun j hj => by rw [sf_uzn _ hj]; exact h.1 j hj, fun i hi => ?_⟩
  rw [← h.2 i hi]
  unfold iq_uz
  rw [if_neg (fun z => hi (by rw [z.2]; exact hk))]
theorem sf_AK.trans {g g1 g2 : iq_I} (h : sf_AK g g1) (h2 : sf_AK g1 g2) : sf_AK g g2 := ⟨fun j hj => by rw [h2.1 j hj]; exact h.1 j hj, fun k hk => by rw [h2.2 k hk]; exact h.2 k hk⟩
theorem sf_MB.k {g g' : iq_I} {A : Int → Int} {n : Int} (h : sf_MB g A n) (k : sf_AK g g') : sf_MB g' A n := ⟨by rw [k.2 10 (by omega)]; exact h.1, h.2.1, by rw [k.1 83 (by decide)]; exact h.2.2⟩
theorem sf_MB.r {g : iq_I} {A : Int → Int} {n : Int} (h : sf_MB g A n) {k : Int} (h1 : 0 ≤ k) (h2 : k < n) : 0 ≤ A k ∧ A k ≤ 255 := by
  rw [← h.2.2 k h1 h2]
  exact sf_255 _
theorem sp92 {N : Nat} {xs : Nat → Int32} {Q : iq_T} {g : iq_I} {l : iq_J} {A : Int → Int} {n k : Int} (h : sf_MB g A n) (hk : 0 ≤ k ∧ k ≤ 2000) (q : Q (some (iq_i (if k < n then A k else -1))) g l) : iq_P N xs 92 0 [some (iq_r 77), some (iq_i k)] [] g l Q := by
  have hn := h.2.1
  refine B92_77 _ _ _ ?_
  rw [h.1]
  refine ⟨by omega, fun c => ?_, fun c => ⟨by omega, ?_⟩⟩
  · rw [if_neg (by omega)] at q; exact q
  · rw [if_pos c] at q
    rw [h.2.2 k hk.1 c]
    exact q
theorem sp93 {N : Nat} {xs : Nat → Int32} {Q : iq_T} {g : iq_I} {l : iq_J} {c : Int} (h : -1 ≤ c ∧ c ≤ 255) (q1 : sf_lt c = true → Q (some (iq_i 1)) g l) (q0 : sf_lt c = false → Q (some (iq_i 0)) g l) : iq_P N xs 93 0 [some (iq_i c)] [] g l Q := by
  refine B93 _ _ _ ⟨by omega, fun a => q0 ?_, fun a => ⟨by omega, fun b => q0 ?_, fun b => q1 ?_⟩⟩
  · unfold sf_lt; simp; omega
  · unfold sf_lt; simp; omega
  · unfold sf_lt; simp; omega
theorem sp94 {N : Nat} {xs : Nat → Int32} {Q : iq_T} {g : iq_I} {l : iq_J} {c : Int} (h : -1 ≤ c ∧ c ≤ 255) (q1 : sf_di c = true → Q (some (iq_i 1)) g l) (q0 : sf_di c = false → Q (some (iq_i 0)) g l) : iq_P N xs 94 0 [some (iq_i c)] [] g l Q := by
  refine B94 _ _ _ ⟨by omega, fun a => q0 ?_, fun a => ⟨by omega, fun b => q0 ?_, fun b => q1 ?_⟩⟩
  · unfold sf_di; simp; omega
  · unfold sf_di; simp; omega
  · unfold sf_di; simp; omega
def sf_mkd (k : Int) : Int := if k = 0 then 0 else if k = 1 then 2 else if k = 2 then 3 else if k = 3 then 4 else 1
/-- the model stands at the TOKEN behind p -/
def sf_MT1 (g : iq_I) (A : Int → Int) (n p : Int) : Prop := g 77 11 = sf_mkd (sf_tk A n p) ∧ g 77 12 = sf_ts A n p ∧ (¬ sf_tk A n p = 4 → g 77 13 = sf_te A n p) ∧ (sf_tk A n p = 2 ∨ sf_tk A n p = 3 → g 77 14 = sf_tv A n p)
theorem sp96_w {N : Nat} {xs : Nat → Int32} {Q : iq_T} {l : iq_J} {g : iq_I} {A : Int → Int} {n v1 : Int} (h : sf_MB g A n) (f : Nat) : ∀ (G : iq_I) (k : Int), sf_AK g G → G 77 13 = k → (n - k).toNat = f → 0 ≤ k ∧ k ≤ n → (∀ G' : iq_I, sf_AK g G' → G' 77 13 = sf_end sf_lt A n k → G' 77 12 = G 77 12 → G' 77 11 = 2 → Q none G' l) → iq_P N xs 96 81 [some (iq_r 77), some (iq_i v1)] [] G l Q := by
  have hn := h.2.1
  induction f with
  | zero =>
    intro G k hK e hf hk q
    have hG := h.k hK
    rw [sf_end_stop (by omega)] at q
    refine B96_p81_77 _ _ _ ?_
    rw [e]
    refine sp92 hG (by omega) ⟨_, rfl, ?_⟩
    rw [if_neg (by omega)]
    refine sp93 (by omega) (fun t => by unfold sf_lt at t; simp at t) (fun t => ⟨_, rfl, by omega, fun _ => q _ (hK.uz (by omega)) (by rw [← e]; simp [iq_uz]) (by simp [iq_uz]) (by simp [iq_uz]), fun h => absurd rfl h⟩)
  | succ f ih =>
    intro G k hK e hf hk q
    have hG := h.k hK
    have cr := hG.r (k := k) hk.1 (by omega)
    refine B96_p81_77 _ _ _ ?_
    rw [e]
    refine sp92 hG (by omega) ⟨_, rfl, ?_⟩
    rw [if_pos (by omega)]
    refine sp93 (by omega) (fun t => ⟨_, rfl, by omega, fun h => by omega, fun _ => ?_⟩) (fun t => ⟨_, rfl, by omega, fun _ => ?_, fun h => absurd rfl h⟩)
    · rw [e]
      exact ih _ (k + 1) (hK.uz (by omega)) (by simp [iq_uz]) (by omega) (by omega) (fun G' w1 w2 w3 w4 => q G' w1 (by rw [w2, sf_end_go (by omega) t]) (by rw [w3]; simp [iq_uz]) w4)
    · rw [sf_end_stop (fun z => by rw [t] at z; exact absurd z.2 (by decide))] at q
      exact q _ (hK.uz (by omega)) (by rw [← e]; simp [iq_uz]) (by simp [iq_uz]) (by simp [iq_uz])
theorem sp96_d {N : Nat} {xs : Nat → Int32} {Q : iq_T} {l : iq_J} {g : iq_I} {A : Int → Int} {n s v1 : Int} (h : sf_MB g A n) (hs : 0 ≤ s ∧ s ≤ n) (f : Nat) : ∀ (G : iq_I) (k : Int), sf_AK g G → G 77 13 = k → G 77 12 = s → (n - k).toNat = f → s ≤ k ∧ k ≤ n → (∀ i : Int, s ≤ i → i < k → sf_di (A i) = true) → (k - s ≤ 4 → G 77 14 = sf_va A s (k - s).toNat) → (0 ≤ G 77 14 ∧ G 77 14 ≤ 100000) → (∀ G' : iq_I, sf_AK g G' → G' 77 13 = sf_end sf_di A n k → G' 77 12 = s → G' 77 11 = (if 4 < sf_end sf_di A n k - s then 1 else 3) → (sf_end sf_di A n k - s ≤ 4 → G' 77 14 = sf_va A s (sf_end sf_di A n k - s).toNat) → Q none G' l) → iq_P N xs 96 128 [some (iq_r 77), some (iq_i v1)] [] G l Q := by
  have hn := h.2.1
  have fin : ∀ (G : iq_I) (k : Int), sf_AK g G → G 77 13 = k → G 77 12 = s → s ≤ k ∧ k ≤ n → (k - s ≤ 4 → G 77 14 = sf_va A s (k - s).toNat) → (∀ G' : iq_I, sf_AK g G' → G' 77 13 = k → G' 77 12 = s → G' 77 11 = (if 4 < k - s then 1 else 3) → (k - s ≤ 4 → G' 77 14 = sf_va A s (k - s).toNat) → Q none G' l) → (-2147483648 ≤ k - s ∧ k - s ≤ 2147483647) ∧ (k - s ≤ 4 → Q none (iq_uz G 77 11 3) l) ∧ (4 < k - s → Q none (iq_uz G 77 11 1) l) := by
    intro G k hK e e2 hk hv q
    refine ⟨by omega, fun c => q _ (hK.uz (by omega)) (by rw [← e]; simp [iq_uz]) (by rw [← e2]; simp [iq_uz]) (by rw [if_neg (by omega)]; simp [iq_uz]) (fun z => by rw [← hv z]; simp [iq_uz]), fun c => q _ (hK.uz (by omega)) (by rw [← e]; simp [iq_uz]) (by rw [← e2]; simp [iq_uz]) (by rw [if_pos c]; simp [iq_uz]) (fun z => by omega)⟩
  induction f with
  | zero =>
    intro G k hK e e2 hf hk hd hv vR q
    have hG := h.k hK
    rw [sf_end_stop (by omega)] at q
    refine B96_p128_77 _ _ _ ?_
    rw [e]
    refine sp92 hG (by omega) ⟨_, rfl, ?_⟩
    rw [if_neg (by omega)]
    exact sp94 (by omega) (fun t => by unfold sf_di at t; simp at t) (fun t => ⟨_, rfl, by omega, fun _ => by rw [e, e2]; exact fin G k hK e e2 hk hv q, fun h => absurd rfl h⟩)
  | succ f ih =>
    intro G k hK e e2 hf hk hd hv vR q
    have hG := h.k hK
    have cr := hG.r (k := k) (by omega) (by omega)
    refine B96_p128_77 _ _ _ ?_
    rw [e]
    refine sp92 hG (by omega) ⟨_, rfl, ?_⟩
    rw [if_pos (by omega)]
    refine sp94 (by omega) (fun t => ⟨_, rfl, by omega, fun h => by omega, fun _ => ?_⟩) (fun t => ⟨_, rfl, by omega, fun _ => ?_, fun h => absurd rfl h⟩)
    · have tt := t
      unfold sf_di at tt
      simp only [Bool.and_eq_true, decide_eq_true_eq] at tt
      rw [e]
      refine sp92 hG (by omega) ⟨_, rfl, ?_⟩
      rw [if_pos (by omega)]
      refine sp95 (by omega) (by omega) ⟨_, rfl, ?_⟩
      rw [e]
      rw [sf_end_go (by omega) t] at q
      refine ih _ (k + 1) ((hK.uz (by omega)).uz (by omega)) (by simp [iq_uz]) (by rw [← e2]; simp [iq_uz]) (by omega) (by omega) (fun i y1 y2 => ?_) (fun z => ?_) ?_ q
      · by_cases c : i = k
        · rw [c]; exact t
        · exact hd i y1 (by omega)
      · rw [show (k + 1 - s).toNat = (k - s).toNat + 1 by omega, sf_va, show s + (((k - s).toNat : Nat) : Int) = k by omega]
        have vr := sf_vaR (A := A) (s := s) (k - s).toNat (by omega) (fun i y1 y2 => hd (s + i) (by omega) (by omega))
        have p4 : (10 : Int) ^ (k - s).toNat ≤ 1000 := by
          have : (k - s).toNat = 0 ∨ (k - s).toNat = 1 ∨ (k - s).toNat = 2 ∨ (k - s).toNat = 3 := by omega
          rcases this with e | e | e | e <;> rw [e] <;> decide
        have hv' := hv (by omega)
        rw [hv']
        rw [show (iq_uz (iq_uz G 77 14 (min 100000 (10 * sf_va A s (k - s).toNat + A k - 48))) 77 13 (k + 1)) 77 14 = min 100000 (10 * sf_va A s (k - s).toNat + A k - 48) by simp [iq_uz]]
        omega
      · rw [show (iq_uz (iq_uz G 77 14 (min 100000 (10 * G 77 14 + A k - 48))) 77 13 (k + 1)) 77 14 = min 100000 (10 * G 77 14 + A k - 48) by simp [iq_uz]]
        omega
    · rw [e, e2]
      rw [sf_end_stop (fun z => by rw [t] at z; exact absurd z.2 (by decide))] at q
      exact fin G k hK e e2 hk hv q
theorem sp96_b {N : Nat} {xs : Nat → Int32} {Q : iq_T} {l : iq_J} {g : iq_I} {A : Int → Int} {n p0 : Int} (h : sf_MB g A n) (h0 : 0 ≤ p0 ∧ p0 ≤ n) (q : ∀ g' : iq_I, sf_AK g g' → sf_MT1 g' A n p0 → Q none g' l) (f : Nat) : ∀ (G : iq_I) (k : Int), sf_AK g G → G 77 13 = k → (n - k).toNat = f → p0 ≤ k ∧ k ≤ n → sf_end sf_bl A n k = sf_ts A n p0 → iq_P N xs 96 0 [some (iq_r 77), none] [] G l Q := by
  have hn := h.2.1
  -- at the first that is no blank
  have at' : ∀ (G : iq_I) (k : Int), sf_AK g G → G 77 13 = k → p0 ≤ k ∧ k ≤ n → sf_ts A n p0 = k → iq_P N xs 92 0 [some (iq_r 77), some (iq_i k)] [] (iq_uz G 77 12 k) l (fun r g7 l8 => ∃ z9, r = some (iq_i z9) ∧ ((-2147483648 ≤ z9 ∧ z9 ≤ 2147483647) ∧ (¬ z9 = (-1 : Int) → (iq_P N xs 93 0 [some (iq_i z9)] [] (iq_uz g7 77 14 z9) l8 (fun r g10 l11 => ∃ z12, r = some (iq_i z12) ∧ ((-2147483648 ≤ z12 ∧ z12 ≤ 2147483647) ∧ (z12 = (0 : Int) → (iq_P N xs 94 0 [some (iq_i z9)] [] g10 l11 (fun r g13 l14 => ∃ z15, r = some (iq_i z15) ∧ ((-2147483648 ≤ z15 ∧ z15 ≤ 2147483647) ∧ (z15 = (0 : Int) → (iq_P N xs 96 218 [some (iq_r 77), some (iq_i z9)] [] (iq_uz g13 77 13 ((g13 77 13) + 1)) l14 Q)) ∧ (¬ z15 = (0 : Int) → (iq_P N xs 96 128 [some (iq_r 77), some (iq_i z9)] [] (iq_uz g13 77 14 0) l14 Q)))))) ∧ (¬ z12 = (0 : Int) → (iq_P N xs 96 81 [some (iq_r 77), some (iq_i z9)] [] g10 l11 Q)))))) ∧ (z9 = (-1 : Int) → (Q none (iq_uz (iq_uz g7 77 14 z9) 77 11 0) l8)))) := by
    intro G k hK e hk hs
    have hK1 : sf_AK g (iq_uz G 77 12 k) := hK.uz (by omega)
    have hG := h.k hK1
    refine sp92 hG (by omega) ⟨_, rfl, ?_⟩
    by_cases c : k < n
    · rw [if_pos c]
      have cr := hG.r (k := k) (by omega) c
      refine ⟨by omega, fun _ => ?_, fun h => by omega⟩
      have hK2 : sf_AK g (iq_uz (iq_uz G 77 12 k) 77 14 (A k)) := hK1.uz (by omega)
      refine sp93 (by omega) (fun t => ⟨_, rfl, by omega, fun h => by omega, fun _ => ?_⟩) (fun t => ⟨_, rfl, by omega, fun _ => ?_, fun h => absurd rfl h⟩)
      · have hk1 : sf_tk A n p0 = 1 := by unfold sf_tk sf_tk1; rw [hs, if_neg (by omega), if_pos t]
        refine sp96_w h _ _ k hK2 (by rw [← e]; simp [iq_uz]) rfl (by omega) (fun G' w1 w2 w3 w4 => q G' w1 ⟨?_, ?_, fun _ => ?_, fun z => by omega⟩)
        · rw [w4, hk1]; rfl
        · rw [w3, hs]; simp [iq_uz]
        · rw [w2]; unfold sf_te sf_te1; rw [hs, if_neg (by omega), if_pos t]
      · have t' : ¬ sf_lt (A k) = true := by rw [t]; decide
        refine sp94 (by omega) (fun u => ⟨_, rfl, by omega, fun h => by omega, fun _ => ?_⟩) (fun u => ⟨_, rfl, by omega, fun _ => ?_, fun h => absurd rfl h⟩)
        · have hk1 : sf_tk A n p0 = if 4 < sf_end sf_di A n k - k then 4 else 2 := by unfold sf_tk sf_tk1; rw [hs, if_neg (by omega), if_neg t', if_pos u]
          refine sp96_d h (s := k) (by omega) _ _ k (hK2.uz (by omega)) (by rw [← e]; simp [iq_uz]) (by simp [iq_uz]) rfl (by omega) (fun i y1 y2 => by omega) (fun _ => by rw [Int.sub_self]; simp [iq_uz, sf_va]) (by simp [iq_uz]) (fun G' w1 w2 w3 w4 w5 => q G' w1 ⟨?_, by rw [w3, hs], fun _ => ?_, fun z => ?_⟩)
          · rw [w4, hk1]
            by_cases c4 : 4 < sf_end sf_di A n k - k
            · rw [if_pos c4, if_pos c4]; rfl
            · rw [if_neg c4, if_neg c4]; rfl
          · rw [w2]; unfold sf_te sf_te1; rw [hs, if_neg (by omega), if_neg t', if_pos u]
          · have c4 : ¬ 4 < sf_end sf_di A n k - k := by
              intro c; rw [if_pos c] at hk1; omega
            rw [w5 (by omega)]
            unfold sf_tv sf_tv1
            rw [hs, if_pos u]
        · have u' : ¬ sf_di (A k) = true := by rw [u]; decide
          have hK3 : sf_AK g (iq_uz (iq_uz (iq_uz G 77 12 k) 77 14 (A k)) 77 13 ((iq_uz (iq_uz G 77 12 k) 77 14 (A k)) 77 13 + 1)) := hK2.uz (by omega)
          have sg : sf_si (A k) = true → ∀ v, sf_AK g v → v 77 12 = k → v 77 13 = k + 1 → v 77 14 = A k → v 77 11 = 4 → Q none v l := fun w v v1 v2 v3 v4 v5 => by
            have hk1 : sf_tk A n p0 = 3 := by unfold sf_tk sf_tk1; rw [hs, if_neg (by omega), if_neg t', if_neg u', if_pos w]
            refine q v v1 ⟨by rw [v5, hk1]; rfl, by rw [v2, hs], fun _ => ?_, fun _ => ?_⟩
            · rw [v3]; unfold sf_te sf_te1; rw [hs, if_neg (by omega), if_neg t', if_neg u']
            · rw [v4]; unfold sf_tv sf_tv1; rw [hs, if_neg u']
          have f12 : ∀ w : Int, (iq_uz (iq_uz (iq_uz (iq_uz G 77 12 k) 77 14 (A k)) 77 13 ((iq_uz (iq_uz G 77 12 k) 77 14 (A k)) 77 13 + 1)) 77 11 w) 77 12 = k := fun w => by simp [iq_uz]
          have f13 : ∀ w : Int, (iq_uz (iq_uz (iq_uz (iq_uz G 77 12 k) 77 14 (A k)) 77 13 ((iq_uz (iq_uz G 77 12 k) 77 14 (A k)) 77 13 + 1)) 77 11 w) 77 13 = k + 1 := fun w => by rw [← e]; simp [iq_uz]
          have f14 : ∀ w : Int, (iq_uz (iq_uz (iq_uz (iq_uz G 77 12 k) 77 14 (A k)) 77 13 ((iq_uz (iq_uz G 77 12 k) 77 14 (A k)) 77 13 + 1)) 77 11 w) 77 14 = A k := fun w => by simp [iq_uz]
          have si : ∀ d : Int, (d = 59 ∨ d = 60 ∨ d = 62 ∨ d = 61) → A k = d → sf_si (A k) = true := fun d hd ed => by
            rw [ed]; unfold sf_si; rcases hd with r | r | r | r <;> subst r <;> decide
          refine B96_p218_77 _ _ _ ⟨by omega, fun d => sg (si _ (by omega) d) _ (hK3.uz (by omega)) (f12 _) (f13 _) (f14 _) (by simp [iq_uz]), fun d1 => ⟨by omega, fun d => sg (si _ (by omega) d) _ (hK3.uz (by omega)) (f12 _) (f13 _) (f14 _) (by simp [iq_uz]), fun d2 => ⟨by omega, fun d => sg (si _ (by omega) d) _ (hK3.uz (by omega)) (f12 _) (f13 _) (f14 _) (by simp [iq_uz]), fun d3 => ⟨by omega, fun d4 => ?_, fun d => sg (si _ (by omega) d) _ (hK3.uz (by omega)) (f12 _) (f13 _) (f14 _) (by simp [iq_uz])⟩⟩⟩⟩
          have ns : ¬ sf_si (A k) = true := by unfold sf_si; simp [d1, d2, d3, d4]
          have hk1 : sf_tk A n p0 = 4 := by unfold sf_tk sf_tk1; rw [hs, if_neg (by omega), if_neg t', if_neg u', if_neg ns]
          exact q _ (hK3.uz (by omega)) ⟨by rw [hk1]; simp [iq_uz]; rfl, by rw [hs]; exact f12 _, fun z => absurd hk1 z, fun z => by omega⟩
    · rw [if_neg c]
      have hk1 : sf_tk A n p0 = 0 := by unfold sf_tk sf_tk1; rw [hs, if_pos (by omega)]
      refine ⟨by omega, fun h => absurd rfl h, fun _ => q _ ((hK1.uz (by omega)).uz (by omega)) ⟨by rw [hk1]; simp [iq_uz]; rfl, by rw [hs]; simp [iq_uz], fun _ => ?_, fun z => by omega⟩⟩
      unfold sf_te sf_te1
      rw [hs, if_pos (by omega), ← e]
      simp [iq_uz]
  induction f with
  | zero =>
    intro G k hK e hf hk hs
    have hG := h.k hK
    rw [sf_end_stop (by omega)] at hs
    refine B96_77 _ _ ?_
    rw [e]
    refine sp92 hG (by omega) ⟨_, rfl, ?_⟩
    rw [if_neg (by omega)]
    refine ⟨by omega, fun h => by omega, fun _ => ?_⟩
    rw [e]
    refine sp92 hG (by omega) ⟨_, rfl, ?_⟩
    rw [if_neg (by omega)]
    refine ⟨by omega, fun _ => ?_, fun h => by omega⟩
    rw [e]
    exact at' G k hK e hk hs.symm
  | succ f ih =>
    intro G k hK e hf hk hs
    have hG := h.k hK
    have cr := hG.r (k := k) (by omega) (by omega)
    refine B96_77 _ _ ?_
    rw [e]
    refine sp92 hG (by omega) ⟨_, rfl, ?_⟩
    rw [if_pos (by omega), e]
    refine ⟨by omega, fun c => ?_, fun c => ?_⟩
    · rw [sf_end_go (by omega) (by unfold sf_bl; simp [c])] at hs
      exact ih _ (k + 1) (hK.uz (by omega)) (by simp [iq_uz]) (by omega) (by omega) hs
    · refine sp92 hG (by omega) ⟨_, rfl, ?_⟩
      rw [if_pos (by omega), e]
      refine ⟨by omega, fun d => ?_, fun d => ?_⟩
      · rw [sf_end_stop (fun z => by have := z.2; unfold sf_bl at this; simp [c, d] at this)] at hs
        exact at' G k hK e hk hs.symm
      · rw [sf_end_go (by omega) (by unfold sf_bl; simp [d])] at hs
        exact ih _ (k + 1) (hK.uz (by omega)) (by simp [iq_uz]) (by omega) (by omega) hs
theorem sp96 {N : Nat} {xs : Nat → Int32} {Q : iq_T} {g : iq_I} {l : iq_J} {A : Int → Int} {n p : Int} (h : sf_MB g A n) (e : g 77 13 = p) (hp : 0 ≤ p ∧ p ≤ n) (q : ∀ g' : iq_I, sf_AK g g' → sf_MT1 g' A n p → Q none g' l) : iq_P N xs 96 0 [some (iq_r 77), none] [] g l Q :=
  sp96_b h hp q _ g p (.refl _) e rfl (by omega) rfl
