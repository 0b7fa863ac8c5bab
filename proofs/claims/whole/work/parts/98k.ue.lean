/-! scale in the model: its text. -/
theorem sf_d1 : ∀ u : Fin 1024, ∀ k : Fin 10, iq_or (u.val : Int) (iq_shl 1 (k.val : Int)) = ((u.val ||| 2 ^ k.val : Nat) : Int) := by decide +kernel
theorem sf_d5 : ∀ u : Fin 1024, ∀ k : Fin 10, iq_and (iq_shr (u.val : Int) (k.val : Int)) 1 = if Nat.testBit u.val k.val = true then 1 else 0 := by decide +kernel
theorem sf_d9 : ∀ u : Fin 1024, iq_and (u.val : Int) 932 = 0 ↔ (Nat.testBit u.val 2 || Nat.testBit u.val 5 || Nat.testBit u.val 7 || Nat.testBit u.val 8 || Nat.testBit u.val 9) = false := by decide +kernel
theorem sf_d9R : ∀ u : Fin 1024, 0 ≤ iq_and (u.val : Int) 932 ∧ iq_and (u.val : Int) 932 ≤ 932 := by decide +kernel
/-- what is told already, as the model keeps it -/
def sf_tlu (u : Int) (tl : Int64) : Prop := (0 ≤ u ∧ u < 1024) ∧ ∀ k : Int, 0 ≤ k → k < 10 → sf_bt u k = iq_tb tl k
theorem sf_tlo {u : Int} {tl : Int64} (h : sf_tlu u tl) {k : Int} (hk : 0 ≤ k ∧ k ≤ 9) : sf_tlu (iq_or u (iq_shl 1 k)) (tl ||| iq_of k) := by
  have e := sf_d1 ⟨u.toNat, by have := h.1; omega⟩ ⟨k.toNat, by omega⟩
  simp only [Int.toNat_of_nonneg h.1.1, Int.toNat_of_nonneg hk.1] at e
  have e' : iq_or u (iq_shl 1 k) = sf_or u k := e
  rw [e']
  have e10 : (2 : Int) ^ 10 = 1024 := by decide
  have ol := sf_or_lt (u := u) (k := k) (m := 10) (by rw [e10]; exact h.1) (by omega)
  rw [e10] at ol
  refine ⟨⟨ol.2, ol.1⟩, fun j y1 y2 => ?_⟩
  rw [sf_bt_or h.1.1 hk.1 y1, h.2 j y1 y2, iq_tb_or, iq_tbof]
  congr 1
  by_cases c : k = j
  · subst c; simp [hk.1]; omega
  · have : ¬ j = k := fun z => c z.symm
    simp [c, this]
theorem sp101t {N : Nat} {xs : Nat → Int32} {Q : iq_T} {g : iq_I} {l : iq_J} {u k : Int} {tl : Int64} (h : sf_tlu u tl) (hk : 0 ≤ k ∧ k < 10) (q1 : iq_tb tl k = true → Q (some (iq_i 1)) g l) (q0 : iq_tb tl k = false → Q (some (iq_i 0)) g l) : iq_P N xs 101 0 [some (iq_r 77), some (iq_i u), some (iq_i k)] [] g l Q := by
  have e := sf_d5 ⟨u.toNat, by have := h.1; omega⟩ ⟨k.toNat, by omega⟩
  simp only [Int.toNat_of_nonneg h.1.1, Int.toNat_of_nonneg hk.1] at e
  have e' : iq_and (iq_shr u k) 1 = if sf_bt u k = true then 1 else 0 := e
  refine B101_77 _ _ _ _ ?_
  rw [e', h.2 k hk.1 hk.2]
  rcases hb : iq_tb tl k with _ | _
  · rw [if_neg (by decide)]
    exact ⟨by omega, fun _ => q0 hb, fun h => by omega⟩
  · rw [if_pos rfl]
    exact ⟨by omega, fun h => absurd rfl h, fun _ => q1 hb⟩
theorem sf_932 {u : Int} {tl : Int64} (h : sf_tlu u tl) : (0 ≤ iq_and u 932 ∧ iq_and u 932 ≤ 932) ∧ (iq_and u 932 = 0 ↔ (iq_tb tl 2 || iq_tb tl 5 || iq_tb tl 7 || iq_tb tl 8 || iq_tb tl 9) = false) := by
  have e := sf_d9 ⟨u.toNat, by have := h.1; omega⟩
  have r := sf_d9R ⟨u.toNat, by have := h.1; omega⟩
  simp only [Int.toNat_of_nonneg h.1.1] at e r
  refine ⟨r, ?_⟩
  rw [e, ← h.2 2 (by omega) (by omega), ← h.2 5 (by omega) (by omega), ← h.2 7 (by omega) (by omega), ← h.2 8 (by omega) (by omega), ← h.2 9 (by omega) (by omega)]
  rfl
/-- all but the places for faults -/
def sf_FK (g g' : iq_I) : Prop := (∀ j, ¬ j = 77 → g' j = g j) ∧ (∀ k, ¬ k = 16 → ¬ k = 17 → g' 77 k = g 77 k)
theorem sp100 {N : Nat} {xs : Nat → Int32} {Q : iq_T} {g : iq_I} {l : iq_J} {A : Int → Int} {n p k : Int} (h17 : g 77 17 = 0) (t : sf_MT1 g A n p) (q : ∀ g' : iq_I, sf_FK g g' → g' 77 17 = (if sf_tk A n p = 4 then 1 else k) → g' 77 16 = sf_ts A n p → Q (some (iq_i 0)) g' l) : iq_P N xs 100 0 [some (iq_r 77), some (iq_i k)] [] g l Q := by
  have m4 := sf_mkv A n p (k := 4) (by omega)
  have e4 : sf_mkd 4 = 1 := rfl
  rw [e4] at m4
  have mR : 0 ≤ sf_mkd (sf_tk A n p) ∧ sf_mkd (sf_tk A n p) ≤ 4 := by unfold sf_mkd; have := sf_tkR A n p; omega
  have kk : ∀ v w : Int, sf_FK g (iq_uz (iq_uz g 77 17 v) 77 16 w) := fun v w => ⟨fun j y => by rw [sf_uzn _ y, sf_uzn _ y], fun i y1 y2 => by simp [iq_uz, y1, y2]⟩
  refine B100_77 _ _ _ ?_
  rw [h17, t.1, t.2.1]
  refine ⟨by omega, fun h => absurd rfl h, fun _ => ⟨by omega, fun c => q _ (kk _ _) ?_ (by simp [iq_uz]), fun c => q _ (kk _ _) ?_ (by simp [iq_uz])⟩⟩
  · rw [if_neg (fun z => c (m4.mpr z))]; simp [iq_uz]
  · rw [if_pos (m4.mp c)]; simp [iq_uz]
theorem sf_MBA {g : iq_I} {A : Int → Int} {n : Int} (h : sf_MB g A n) : ∀ k : Int, 0 ≤ k → k < n → 0 ≤ A k ∧ A k ≤ 255 := fun _ a b => h.r a b
theorem sp102 {N : Nat} {xs : Nat → Int32} {Q : iq_T} {g : iq_I} {l : iq_J} {A : Int → Int} {n p to lo hi : Int} (h : sf_MB g A n) (hp : 0 ≤ p ∧ p ≤ n) (t : sf_MT1 g A n p) (h17 : g 77 17 = 0) (hto : 0 ≤ to ∧ to < 2392) (hl : -1000 ≤ lo ∧ lo ≤ 1000) (hh : -1000 ≤ hi ∧ hi ≤ 1000) (q1 : sf_num A n p lo hi = 0 → ∀ g' : iq_I, sf_AK (iq_uz g 78 to (sf_tv A n p)) g' → sf_MT1 g' A n (sf_te A n p) → Q (some (iq_i 1)) g' l) (q0 : ¬ sf_num A n p lo hi = 0 → ∀ g' : iq_I, sf_FK g g' → g' 77 17 = sf_num A n p lo hi → g' 77 16 = sf_ts A n p → Q (some (iq_i 0)) g' l) : iq_P N xs 102 0 [some (iq_r 77), some (iq_i to), some (iq_i lo), some (iq_i hi)] [] g l Q := by
  have m2 := sf_mkv A n p (k := 2) (by omega)
  have e2 : sf_mkd 2 = 3 := rfl
  rw [e2] at m2
  have mR : 0 ≤ sf_mkd (sf_tk A n p) ∧ sf_mkd (sf_tk A n p) ≤ 4 := by unfold sf_mkd; have := sf_tkR A n p; omega
  have eR := sf_teR (A := A) hp
  unfold sf_num at q1 q0
  refine B102_77 _ _ _ _ _ ?_
  rw [t.1]
  refine ⟨by omega, fun c => ?_, fun c => ?_⟩
  · have k2 := m2.mp c
    have vR := sf_tvR (sf_MBA h) hp (.inl k2)
    rw [if_neg (by omega), if_neg (fun z => z k2)] at q1 q0
    rw [t.2.2.2 (.inl k2)]
    refine ⟨by omega, fun x => sp100 h17 t (fun g1 b1 b2 b3 => ⟨_, rfl, by omega, ?_⟩), fun x => ⟨by omega, fun y => ⟨hto, ?_⟩, fun y => sp100 h17 t (fun g1 b1 b2 b3 => ⟨_, rfl, by omega, ?_⟩)⟩⟩
    · rw [if_neg (by omega)] at q0 b2
      exact q0 (by decide) g1 b1 b2 b3
    · rw [if_pos ⟨x, y⟩] at q1
      have h1 : sf_MB (iq_uz g 78 to (sf_tv A n p)) A n := ⟨by rw [sf_uzn _ (by decide)]; exact h.1, h.2.1, by rw [sf_uzn _ (by decide)]; exact h.2.2⟩
      exact sp96 (p := sf_te A n p) h1 (by rw [sf_uzn _ (by decide)]; exact t.2.2.1 (by omega)) (by have := sf_tsR (A := A) hp; omega) (fun g1 b1 b2 => ⟨rfl, q1 rfl g1 b1 b2⟩)
    · rw [if_neg (by omega)] at q0 b2
      exact q0 (by decide) g1 b1 b2 b3
  · have k2 : ¬ sf_tk A n p = 2 := fun z => c (m2.mpr z)
    refine sp100 h17 t (fun g1 b1 b2 b3 => ⟨_, rfl, by omega, ?_⟩)
    by_cases k4 : sf_tk A n p = 4
    · rw [if_pos k4] at q0 b2
      exact q0 (by decide) g1 b1 b2 b3
    · rw [if_neg k4, if_pos k2] at q0
      rw [if_neg k4] at b2
      exact q0 (by decide) g1 b1 b2 b3
theorem sp104 {N : Nat} {xs : Nat → Int32} {Q : iq_T} {g : iq_I} {l : iq_J} {A : Int → Int} {n p c : Int} (h : sf_MB g A n) (hp : 0 ≤ p ∧ p ≤ n) (t : sf_MT1 g A n p) (hc : 0 ≤ c ∧ c ≤ 255) (q1 : sf_tk A n p = 3 ∧ sf_tv A n p = c → Q (some (iq_i 1)) g l) (q0 : ¬ (sf_tk A n p = 3 ∧ sf_tv A n p = c) → Q (some (iq_i 0)) g l) : iq_P N xs 104 0 [some (iq_r 77), some (iq_i c)] [] g l Q := by
  have m3 := sf_mkv A n p (k := 3) (by omega)
  have e3 : sf_mkd 3 = 4 := rfl
  rw [e3] at m3
  have mR : 0 ≤ sf_mkd (sf_tk A n p) ∧ sf_mkd (sf_tk A n p) ≤ 4 := by unfold sf_mkd; have := sf_tkR A n p; omega
  refine B104_77 _ _ _ ?_
  rw [t.1]
  refine ⟨by omega, fun d => q0 (fun z => d (m3.mpr z.1)), fun d => ?_⟩
  have k3 := m3.mp d
  have vR := sf_tvR (sf_MBA h) hp (.inr k3)
  rw [t.2.2.2 (.inr k3)]
  exact ⟨by omega, fun x => q0 (fun z => x z.2), fun x => q1 ⟨k3, x⟩⟩
theorem sp105 {N : Nat} {xs : Nat → Int32} {Q : iq_T} {g : iq_I} {l : iq_J} {A : Int → Int} {n p : Int} (h : sf_MB g A n) (hp : 0 ≤ p ∧ p ≤ n) (t : sf_MT1 g A n p) (h17 : g 77 17 = 0) (q1 : sf_sem A n p = 0 → ∀ g' : iq_I, sf_AK g g' → sf_MT1 g' A n (sf_te A n p) → Q (some (iq_i 1)) g' l) (q0 : ¬ sf_sem A n p = 0 → ∀ g' : iq_I, sf_FK g g' → g' 77 17 = sf_sem A n p → g' 77 16 = sf_ts A n p → Q (some (iq_i 0)) g' l) : iq_P N xs 105 0 [some (iq_r 77), some (iq_i 59)] [] g l Q := by
  have eR := sf_teR (A := A) hp
  have sR := sf_tsR (A := A) hp
  unfold sf_sem at q1 q0
  refine B105_77 _ _ _ (sp104 h hp t (by omega) (fun d => ⟨_, rfl, by omega, fun _ => ?_, fun h => by omega⟩) (fun d => ⟨_, rfl, by omega, fun h => absurd rfl h, fun _ => ?_⟩))
  · rw [if_neg (by omega), if_pos d] at q1
    exact sp96 (p := sf_te A n p) h (t.2.2.1 (by omega)) (by omega) (fun g1 b1 b2 => ⟨rfl, q1 rfl g1 b1 b2⟩)
  · refine sp100 h17 t (fun g1 b1 b2 b3 => ⟨_, rfl, by omega, ?_⟩)
    by_cases k4 : sf_tk A n p = 4
    · rw [if_pos k4] at q0 b2
      exact q0 (by decide) g1 b1 b2 b3
    · rw [if_neg k4, if_neg d] at q0
      rw [if_neg k4] at b2
      exact q0 (by decide) g1 b1 b2 b3
/-- all but the model's reading and its new scale -/
def sf_NK (g0 g : iq_I) : Prop := (∀ j, ¬ j = 77 → ¬ j = 78 → g j = g0 j) ∧ (∀ k, ¬ (11 ≤ k ∧ k ≤ 14) → ¬ (16 ≤ k ∧ k ≤ 18) → g 77 k = g0 77 k) ∧ (∀ k, ¬ (1840 ≤ k ∧ k < 1849) → ¬ (1860 ≤ k ∧ k < 1920) → ¬ k = 2292 → g 78 k = g0 78 k)
/-- the new scale -/
def sf_NP (g : iq_I) (P : Int → Int) (S : Int64) : Prop := (∀ k, 0 ≤ k → k < 9 → g 78 (1840 + k) = P k) ∧ (∀ t, 0 ≤ t → t < 60 → g 78 (1860 + t) = if iq_tb S t = true then 1 else 0)
def sf_NS (g0 g : iq_I) (A : Int → Int) (n p : Int) (P : Int → Int) (S tl : Int64) : Prop := sf_NK g0 g ∧ sf_MB g A n ∧ sf_MT1 g A n p ∧ sf_NP g P S ∧ sf_tlu (g 77 18) tl ∧ g 77 17 = 0 ∧ g 77 16 = -1
theorem sf_NK.ak {g0 g g' : iq_I} (h : sf_NK g0 g) (k : sf_AK g g') : sf_NK g0 g' := ⟨fun j y1 y2 => by rw [k.1 j y1]; exact h.1 j y1 y2, fun i y1 y2 => by rw [k.2 i y1]; exact h.2.1 i y1 y2, fun i y1 y2 y3 => by rw [k.1 78 (by decide)]; exact h.2.2 i y1 y2 y3⟩
theorem sf_NK.fk {g0 g g' : iq_I} (h : sf_NK g0 g) (k : sf_FK g g') : sf_NK g0 g' := ⟨fun j y1 y2 => by rw [k.1 j y1]; exact h.1 j y1 y2, fun i y1 y2 => by rw [k.2 i (by omega) (by omega)]; exact h.2.1 i y1 y2, fun i y1 y2 y3 => by rw [k.1 78 (by decide)]; exact h.2.2 i y1 y2 y3⟩
theorem sf_NS.ak {g0 g g' : iq_I} {A : Int → Int} {n p p' : Int} {P : Int → Int} {S tl : Int64} (h : sf_NS g0 g A n p P S tl) (k : sf_AK g g') (t : sf_MT1 g' A n p') : sf_NS g0 g' A n p' P S tl := by
  obtain ⟨h1, h2, h3, h4, h5, h6, h7⟩ := h
  refine ⟨h1.ak k, h2.k k, t, ?_, by rw [k.2 18 (by omega)]; exact h5, by rw [k.2 17 (by omega)]; exact h6, by rw [k.2 16 (by omega)]; exact h7⟩
  unfold sf_NP
  rw [k.1 78 (by decide)]
  exact h4
theorem sf_NP.fk {g g' : iq_I} {P : Int → Int} {S : Int64} (h : sf_NP g P S) (k : g' 78 = g 78) : sf_NP g' P S := by
  unfold sf_NP
  rw [k]
  exact h
