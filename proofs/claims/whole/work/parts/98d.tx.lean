/-! Texts: TOKENS as plain functions of the bytes; the class's reader. -/
def sf_bl (c : Int) : Bool := decide (c = 10) || decide (c = 32)
def sf_lt (c : Int) : Bool := decide (97 ≤ c) && decide (c ≤ 122)
def sf_di (c : Int) : Bool := decide (48 ≤ c) && decide (c ≤ 57)
def sf_si (c : Int) : Bool := decide (c = 59) || decide (c = 60) || decide (c = 62) || decide (c = 61)
def sf_spn (P : Int → Bool) (A : Int → Int) (n : Int) : Nat → Int → Int
  | 0, k => k
  | f + 1, k => if k < n ∧ P (A k) = true then sf_spn P A n f (k + 1) else k
def sf_end (P : Int → Bool) (A : Int → Int) (n k : Int) : Int := sf_spn P A n (n - k).toNat k
theorem sf_end_go {P : Int → Bool} {A : Int → Int} {n k : Int} (h : k < n) (hp : P (A k) = true) : sf_end P A n k = sf_end P A n (k + 1) := by
  unfold sf_end
  rw [show (n - k).toNat = (n - (k + 1)).toNat + 1 by omega, sf_spn, if_pos ⟨h, hp⟩]
theorem sf_end_stop {P : Int → Bool} {A : Int → Int} {n k : Int} (h : ¬ (k < n ∧ P (A k) = true)) : sf_end P A n k = k := by
  unfold sf_end
  rcases hf : (n - k).toNat with _ | f
  · rfl
  · rw [sf_spn, if_neg h]
theorem sf_end_ge (P : Int → Bool) (A : Int → Int) (n : Int) (f : Nat) : ∀ k : Int, k ≤ sf_spn P A n f k ∧ (k ≤ n → sf_spn P A n f k ≤ n) := by
  induction f with
  | zero => intro k; exact ⟨Int.le_refl _, fun h => h⟩
  | succ f ih =>
    intro k
    rw [sf_spn]
    split
    · next c =>
      have := ih (k + 1)
      exact ⟨by omega, fun h => this.2 (by omega)⟩
    · exact ⟨Int.le_refl _, fun h => h⟩
theorem sf_endR (P : Int → Bool) (A : Int → Int) (n k : Int) : k ≤ sf_end P A n k ∧ (k ≤ n → sf_end P A n k ≤ n) := sf_end_ge P A n _ k
/-- the value of so many digits -/
def sf_va (A : Int → Int) (s : Int) : Nat → Int
  | 0 => 0
  | j + 1 => sf_va A s j * 10 + A (s + j) - 48
def sf_ts (A : Int → Int) (n p : Int) : Int := sf_end sf_bl A n p
/-- 0: end, 1: word, 2: number, 3: sign, 4: none -/
def sf_tk1 (A : Int → Int) (n s : Int) : Int := if n ≤ s then 0 else if sf_lt (A s) = true then 1 else if sf_di (A s) = true then (if 4 < sf_end sf_di A n s - s then 4 else 2) else if sf_si (A s) = true then 3 else 4
def sf_te1 (A : Int → Int) (n s : Int) : Int := if n ≤ s then s else if sf_lt (A s) = true then sf_end sf_lt A n s else if sf_di (A s) = true then sf_end sf_di A n s else s + 1
def sf_tv1 (A : Int → Int) (n s : Int) : Int := if sf_di (A s) = true then sf_va A s (sf_end sf_di A n s - s).toNat else A s
def sf_tk (A : Int → Int) (n p : Int) : Int := sf_tk1 A n (sf_ts A n p)
def sf_te (A : Int → Int) (n p : Int) : Int := sf_te1 A n (sf_ts A n p)
def sf_tv (A : Int → Int) (n p : Int) : Int := sf_tv1 A n (sf_ts A n p)
theorem sf_255 (x : Int) : 0 ≤ iq_and x 255 ∧ iq_and x 255 ≤ 255 := by
  unfold iq_and
  have e : (Int32.ofInt 255) = (255 : Int32) := rfl
  have h : ((Int32.ofInt x &&& Int32.ofInt 255).toBitVec).toNat ≤ 255 := by
    rw [Int32.toBitVec_and, BitVec.toNat_and, e]
    exact Nat.and_le_right
  have h2 : (Int32.ofInt x &&& Int32.ofInt 255).toInt = (((Int32.ofInt x &&& Int32.ofInt 255).toBitVec).toNat : Int) := by
    rw [← Int32.toInt_toBitVec]
    exact BitVec.toInt_eq_toNat_of_lt (by omega)
  rw [h2]
  omega
theorem sf_vaR {A : Int → Int} {s : Int} : ∀ j : Nat, j ≤ 4 → (∀ i : Int, 0 ≤ i → i < j → sf_di (A (s + i)) = true) → 0 ≤ sf_va A s j ∧ sf_va A s j < 10 ^ j := by
  intro j
  induction j with
  | zero => intro _ _; rw [sf_va]; omega
  | succ j ih =>
    intro h1 h2
    have := ih (by omega) (fun i a b => h2 i a (by omega))
    have d := h2 j (by omega) (by omega)
    unfold sf_di at d
    simp only [Bool.and_eq_true, decide_eq_true_eq] at d
    rw [sf_va]
    have e : (10 : Int) ^ (j + 1) = 10 ^ j * 10 := Int.pow_succ ..
    rw [e]
    omega
/-! the class -/
def sf_AB (g : iq_I) (A : Int → Int) (n : Int) : Prop := g 10 2 = n ∧ (0 ≤ n ∧ n ≤ 900) ∧ ∀ k : Int, 0 ≤ k → k < 900 → iq_and (g 11 k) 255 = A k
theorem sf_AB.r {g : iq_I} {A : Int → Int} {n : Int} (h : sf_AB g A n) {k : Int} (h1 : 0 ≤ k) (h2 : k < 900) : 0 ≤ A k ∧ A k ≤ 255 := by
  rw [← h.2.2 k h1 h2]
  exact sf_255 _
/-- all kept but the reader's own places -/
def sf_RK (g g' : iq_I) (b : Int) : Prop := (∀ j, ¬ j = 10 → g' j = g j) ∧ (∀ k, ¬ (3 ≤ k ∧ k ≤ b) → g' 10 k = g 10 k)
theorem sf_RK.refl (g : iq_I) (b : Int) : sf_RK g g b := ⟨fun _ _ => rfl, fun _ _ => rfl⟩
theorem sf_RK.uz {g g' : iq_I} {b : Int} (h : sf_RK g g' b) {k v : Int} (hk : 3 ≤ k ∧ k ≤ b) : sf_RK g (iq_uz g' 10 k v) b := by
  refine ⟨fun j hj => by rw [sf_uzn _ hj]; exact h.1 j hj, fun i hi => ?_⟩
  rw [← h.2 i hi]
  unfold iq_uz
  rw [if_neg (fun z => hi (by rw [z.2]; exact hk))]
theorem sf_RK.trans {g g1 g2 : iq_I} {b c : Int} (h : sf_RK g g1 b) (h2 : sf_RK g1 g2 c) (hb : b ≤ c) : sf_RK g g2 c := ⟨fun j hj => by rw [h2.1 j hj]; exact h.1 j hj, fun k hk => by rw [h2.2 k hk]; exact h.2 k (by omega)⟩
theorem sf_AB.k {g g' : iq_I} {A : Int → Int} {n b : Int} (h : sf_AB g A n) (k : sf_RK g g' b) : sf_AB g' A n := ⟨by rw [k.2 2 (by omega)]; exact h.1, h.2.1, by rw [k.1 11 (by decide)]; exact h.2.2⟩
theorem sp56 {N : Nat} {xs : Nat → Int32} {Q : iq_T} {g : iq_I} {l : iq_J} {A : Int → Int} {n k : Int} (h : sf_AB g A n) (hk : 0 ≤ k ∧ k < 900) (q : Q (some (iq_i (A k))) g l) : iq_P N xs 56 0 [some (iq_r 10), some (iq_i k)] [] g l Q := by
  refine B56_10 _ _ _ ⟨by omega, fun h => by omega, fun _ => ⟨by omega, fun h => by omega, fun _ => ⟨by omega, ?_⟩⟩⟩
  rw [h.2.2 k hk.1 hk.2]
  exact q
theorem sp58 {N : Nat} {xs : Nat → Int32} {Q : iq_T} {g : iq_I} {l : iq_J} {c : Int} (h : 0 ≤ c ∧ c ≤ 255) (q1 : sf_lt c = true → Q (some (iq_i 1)) g l) (q0 : sf_lt c = false → Q (some (iq_i 0)) g l) : iq_P N xs 58 0 [some (iq_i c)] [] g l Q := by
  refine B58 _ _ _ ⟨by omega, fun a => q0 ?_, fun a => ⟨by omega, fun b => q0 ?_, fun b => q1 ?_⟩⟩
  · unfold sf_lt; simp; omega
  · unfold sf_lt; simp; omega
  · unfold sf_lt; simp; omega
theorem sp60 {N : Nat} {xs : Nat → Int32} {Q : iq_T} {g : iq_I} {l : iq_J} {c : Int} (h : 0 ≤ c ∧ c ≤ 255) (q1 : sf_di c = true → Q (some (iq_i 1)) g l) (q0 : sf_di c = false → Q (some (iq_i 0)) g l) : iq_P N xs 60 0 [some (iq_i c)] [] g l Q := by
  refine B60 _ _ _ ⟨by omega, fun a => q0 ?_, fun a => ⟨by omega, fun b => q0 ?_, fun b => q1 ?_⟩⟩
  · unfold sf_di; simp; omega
  · unfold sf_di; simp; omega
  · unfold sf_di; simp; omega
theorem sp57 {N : Nat} {xs : Nat → Int32} {Q : iq_T} {g : iq_I} {l : iq_J} {c : Int} (h : 0 ≤ c ∧ c ≤ 255) (q1 : sf_bl c = true → Q (some (iq_i 1)) g l) (q0 : sf_bl c = false → Q (some (iq_i 0)) g l) : iq_P N xs 57 0 [some (iq_i c)] [] g l Q := by
  refine B57 _ _ _ ⟨by omega, fun a => q1 ?_, fun a => ⟨by omega, fun b => q0 ?_, fun b => q1 ?_⟩⟩
  · unfold sf_bl; simp [a]
  · unfold sf_bl; simp [a, b]
  · unfold sf_bl; simp [b]
theorem sp62 {N : Nat} {xs : Nat → Int32} {Q : iq_T} {g : iq_I} {l : iq_J} {c : Int} (h : 0 ≤ c ∧ c ≤ 255) (q1 : sf_si c = true → Q (some (iq_i 1)) g l) (q0 : sf_si c = false → Q (some (iq_i 0)) g l) : iq_P N xs 62 0 [some (iq_i c)] [] g l Q := by
  refine B62 _ _ _ ⟨by omega, fun a => q1 ?_, fun a => ⟨by omega, fun b => q1 ?_, fun b => ⟨by omega, fun c => q1 ?_, fun c => ⟨by omega, fun d => q0 ?_, fun d => q1 ?_⟩⟩⟩⟩
  · unfold sf_si; simp [a]
  · unfold sf_si; simp [b]
  · unfold sf_si; simp [c]
  · unfold sf_si; simp [a, b, c, d]
  · unfold sf_si; simp [d]
theorem sp59_p {N : Nat} {xs : Nat → Int32} {Q : iq_T} {l : iq_J} {g : iq_I} {A : Int → Int} {n : Int} (h : sf_AB g A n) (f : Nat) : ∀ (G : iq_I) (k : Int), sf_RK g G 6 → G 10 3 = k → (n - k).toNat = f → 0 ≤ k ∧ k ≤ n → (∀ G' : iq_I, sf_RK g G' 6 → G' 10 3 = sf_end sf_lt A n k → G' 10 4 = G 10 4 → G' 10 5 = G 10 5 → Q none G' l) → iq_P N xs 59 5 [some (iq_r 10)] [] G l Q := by
  have hn := h.2.1
  induction f with
  | zero =>
    intro G k hK e hf hk q
    have hG := h.k hK
    rw [sf_end_stop (by omega)] at q
    refine B59_p5_10 _ _ ?_
    rw [e, hG.1]
    exact ⟨by omega, fun _ => q G hK e rfl rfl, fun h => by omega⟩
  | succ f ih =>
    intro G k hK e hf hk q
    have hG := h.k hK
    have cr := hG.r (k := k) hk.1 (by omega)
    refine B59_p5_10 _ _ ?_
    rw [e, hG.1]
    refine ⟨by omega, fun h => by omega, fun _ => sp56 hG (by omega) ⟨_, rfl, sp58 cr (fun t => ⟨_, rfl, by omega, fun h => by omega, fun _ => ?_⟩) (fun t => ⟨_, rfl, by omega, fun _ => ?_, fun h => absurd rfl h⟩)⟩⟩
    · rw [e]
      refine ih _ (k + 1) (hK.uz (by omega)) (by simp [iq_uz]) (by omega) (by omega) (fun G' w1 w2 w3 w4 => q G' w1 (by rw [w2, sf_end_go (by omega) t]) (by rw [w3]; simp [iq_uz]) (by rw [w4]; simp [iq_uz]))
    · rw [sf_end_stop (fun z => by rw [t] at z; exact absurd z.2 (by decide))] at q
      exact q G hK e rfl rfl
theorem sp61_p {N : Nat} {xs : Nat → Int32} {Q : iq_T} {l : iq_J} {g : iq_I} {A : Int → Int} {n s : Int} (h : sf_AB g A n) (hs : 0 ≤ s ∧ s ≤ n) (f : Nat) : ∀ (G : iq_I) (k : Int), sf_RK g G 6 → G 10 3 = k → G 10 5 = s → G 10 4 = 2 → (n - k).toNat = f → s ≤ k ∧ k ≤ n → (k - s ≤ 4 → G 10 6 = sf_va A s (k - s).toNat) → (∀ G' : iq_I, sf_RK g G' 6 → G' 10 3 = sf_end sf_di A n k → G' 10 5 = s → G' 10 4 = (if 4 < sf_end sf_di A n k - s then 4 else 2) → (sf_end sf_di A n k - s ≤ 4 → G' 10 6 = sf_va A s (sf_end sf_di A n k - s).toNat) → Q none G' l) → iq_P N xs 61 10 [some (iq_r 10)] [] G l Q := by
  have hn := h.2.1
  have fin : ∀ (G : iq_I) (k : Int), sf_RK g G 6 → G 10 3 = k → G 10 5 = s → G 10 4 = 2 → s ≤ k ∧ k ≤ n → (k - s ≤ 4 → G 10 6 = sf_va A s (k - s).toNat) → (∀ G' : iq_I, sf_RK g G' 6 → G' 10 3 = k → G' 10 5 = s → G' 10 4 = (if 4 < k - s then 4 else 2) → (k - s ≤ 4 → G' 10 6 = sf_va A s (k - s).toNat) → Q none G' l) → (-2147483648 ≤ k - s ∧ k - s ≤ 2147483647) ∧ (k - s ≤ 4 → Q none G l) ∧ (4 < k - s → Q none (iq_uz G 10 4 4) l) := by
    intro G k hK e e5 e4 hk hv q
    refine ⟨by omega, fun c => q G hK e e5 (by rw [if_neg (by omega)]; exact e4) hv, fun c => q _ (hK.uz (by omega)) (by rw [← e]; simp [iq_uz]) (by rw [← e5]; simp [iq_uz]) (by rw [if_pos c]; simp [iq_uz]) (fun z => by omega)⟩
  induction f with
  | zero =>
    intro G k hK e e5 e4 hf hk hv q
    have hG := h.k hK
    rw [sf_end_stop (by omega)] at q
    refine B61_p10_10 _ _ ?_
    rw [e, e5, hG.1]
    exact ⟨by omega, fun _ => fin G k hK e e5 e4 hk hv q, fun h => by omega⟩
  | succ f ih =>
    intro G k hK e e5 e4 hf hk hv q
    have hG := h.k hK
    have cr := hG.r (k := k) (by omega) (by omega)
    refine B61_p10_10 _ _ ?_
    rw [e, hG.1]
    refine ⟨by omega, fun h => by omega, fun _ => sp56 hG (by omega) ⟨_, rfl, sp60 cr (fun t => ⟨_, rfl, by omega, fun h => by omega, fun _ => ?_⟩) (fun t => ⟨_, rfl, by omega, fun _ => ?_, fun h => absurd rfl h⟩)⟩⟩
    · rw [e, e5]
      rw [sf_end_go (by omega) t] at q
      refine ⟨by omega, fun c => B61_p88_10 _ _ ?_, fun c => sp56 hG (by omega) ⟨_, rfl, B61_p88_10 _ _ ?_⟩⟩
      · exact ih _ (k + 1) ((hK.uz (by omega)).uz (by omega)) (by simp [iq_uz]) (by rw [← e5]; simp [iq_uz]) (by rw [← e4]; simp [iq_uz]) (by omega) (by omega) (fun z => by omega) q
      · rw [e]
        refine ih _ (k + 1) ((hK.uz (by omega)).uz (by omega)) (by simp [iq_uz]) (by rw [← e5]; simp [iq_uz]) (by rw [← e4]; simp [iq_uz]) (by omega) (by omega) (fun z => ?_) q
        rw [show (k + 1 - s).toNat = (k - s).toNat + 1 by omega, sf_va, ← hv (by omega), show s + (((k - s).toNat : Nat) : Int) = k by omega]
        simp [iq_uz]
    · rw [e, e5]
      rw [sf_end_stop (fun z => by rw [t] at z; exact absurd z.2 (by decide))] at q
      exact fin G k hK e e5 e4 hk hv q
