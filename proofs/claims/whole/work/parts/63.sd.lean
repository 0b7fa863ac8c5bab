/-! Press, lift, sift in the model; sift in the class. -/
def iq_78 (g g' : iq_I) : Prop := (∀ j, ¬ j = 78 → g' j = g j) ∧ (∀ k, ¬ ((0 ≤ k ∧ k < 92) ∧ ¬ k = 10) → g' 78 k = g 78 k)
theorem iq_78.refl (g : iq_I) : iq_78 g g := ⟨fun _ _ => rfl, fun _ _ => rfl⟩
theorem iq_78.uz {g g' : iq_I} (h : iq_78 g g') {k v : Int} (hk : (0 ≤ k ∧ k < 92) ∧ ¬ k = 10) : iq_78 g (iq_uz g' 78 k v) := by
  refine ⟨fun j hj => ?_, fun i hi => ?_⟩
  · rw [← h.1 j hj]; funext i; simp [iq_uz, hj]
  · rw [← h.2 i hi]
    have : ¬ i = k := fun e => by subst e; exact hi hk
    simp [iq_uz, this]
theorem iq_78.km {g g' : iq_I} {l : iq_J} (h : iq_78 g g') : iq_KM iq_Mm g l g' l := by
  refine .ofg (fun j k _ y => ?_)
  by_cases e : j = 78
  · rw [e] at y ⊢
    refine h.2 k (fun z => ?_)
    simp [iq_Mm, z.1.1] at y
    omega
  · rw [h.1 j e]
theorem iq_MS.p {g : iq_I} {P : Int → Int} {S : Int64} {m : Int} {R : Int → Int} (h : iq_MS g 0 P S m R) : ∀ k, 0 ≤ k → k < 9 → g 78 k = P k := fun k a b => by have := h.1 k a b; rwa [Int.zero_add] at this
theorem iq_MS.s {g : iq_I} {P : Int → Int} {S : Int64} {m : Int} {R : Int → Int} (h : iq_MS g 0 P S m R) : ∀ t, 0 ≤ t → t < 60 → g 78 (20 + t) = if iq_tb S t = true then 1 else 0 := fun t a b => by have := h.2.1 t a b; rwa [Int.zero_add] at this
theorem iq_MS.n {g : iq_I} {P : Int → Int} {S : Int64} {m : Int} {R : Int → Int} (h : iq_MS g 0 P S m R) : g 78 9 = m := h.2.2.1
theorem iq_MS.r {g : iq_I} {P : Int → Int} {S : Int64} {m : Int} {R : Int → Int} (h : iq_MS g 0 P S m R) : ∀ k, 0 ≤ k → k < m → g 78 (80 + k) = R k := fun k a b => by have := h.2.2.2 k a b; rwa [Int.zero_add] at this
theorem iq_MS.mk0 {g : iq_I} {P : Int → Int} {S : Int64} {m : Int} {R : Int → Int} (a : ∀ k, 0 ≤ k → k < 9 → g 78 k = P k) (b : ∀ t, 0 ≤ t → t < 60 → g 78 (20 + t) = if iq_tb S t = true then 1 else 0) (c : g 78 9 = m) (d : ∀ k, 0 ≤ k → k < m → g 78 (80 + k) = R k) : iq_MS g 0 P S m R :=
  ⟨fun k x y => by rw [Int.zero_add]; exact a k x y, fun t x y => by rw [Int.zero_add]; exact b t x y, c, fun k x y => by rw [Int.zero_add]; exact d k x y⟩
theorem sp144m {N : Nat} {xs : Nat → Int32} {Q : iq_T} {g : iq_I} {l : iq_J} {S : Int64} (hs : ∀ t, 0 ≤ t → t < 60 → g 78 (20 + t) = if iq_tb S t = true then 1 else 0) (hb : ∀ t, iq_tb S t = true → t < 60) (q : Q (some (iq_i (iq_cn (iq_tb S) 64))) g l) : iq_P N xs 144 0 [some (iq_r 77), none, none] [] g l Q := by
  refine B144_77 _ _ (sp144_p hs ?_ 60 0 (by omega))
  rw [iq_cn_ext (a := 60) (b := 64) (by omega) (fun i a b => ?_)] at q
  · exact q
  · rcases hb' : iq_tb S i with _ | _
    · rfl
    · have := hb i hb'; omega
theorem iq_ZV.b60 {P : Int → Int} {S : Int64} {m : Int} {R : Int → Int} (h : iq_ZV P S m R) : ∀ t, iq_tb S t = true → t < 60 := fun t ht => by
  have := h.2.1 t ht
  have := h.1.2.1
  omega
theorem sp180_p {N : Nat} {xs : Nat → Int32} {Q : iq_T} {l : iq_J} {g : iq_I} {t : Int} (h9 : -2147483648 ≤ g 78 9 + 1 ∧ g 78 9 + 1 ≤ 2147483647) (q : ∀ g' : iq_I, iq_78 g g' → (∀ k, k < 80 → ¬ k = 9 → g' 78 k = g 78 k) → g' 78 9 = min 12 (g 78 9 + 1) → g' 78 80 = t → (∀ k, 1 ≤ k → k < 12 → g' 78 (80 + k) = g 78 (80 + k - 1)) → Q (some (iq_i 1)) g' l) (n : Nat) : ∀ g1 : iq_I, n ≤ 11 → iq_78 g g1 → (∀ k, k < 80 → g1 78 k = g 78 k) → (∀ k : Int, 0 ≤ k → k ≤ n → g1 78 (80 + k) = g 78 (80 + k)) → (∀ k : Int, n < k → k < 12 → g1 78 (80 + k) = g 78 (80 + k - 1)) → iq_P N xs 180 32 [some (iq_r 77), some (iq_i t), some (iq_i n)] [] g1 l Q := by
  induction n with
  | zero =>
    intro g1 h a b c d
    refine B180_p32_77 _ _ _ _ ⟨by omega, fun _ => ?_, fun h => by omega⟩
    rw [b 9 (by omega)]
    refine sp95 (by omega) h9 ⟨_, rfl, q _ ((a.uz (by omega)).uz (by omega)) (fun k x y => ?_) (by simp [iq_uz]) (by simp [iq_uz]) (fun k x y => ?_)⟩
    · rw [← b k x]
      have : ¬ k = 80 := by omega
      simp [iq_uz, y, this]
    · rw [← d k (by omega) y]
      have e1 : ¬ 80 + k = 80 := by omega
      have e2 : ¬ 80 + k = 9 := by omega
      simp only [iq_uz]
      rw [if_neg (fun e => e2 e.2), if_neg (fun e => e1 e.2)]
  | succ n ih =>
    intro g1 h a b c d
    refine B180_p32_77 _ _ _ _ ⟨by omega, fun h => by omega, fun _ => ⟨by omega, by omega, ?_⟩⟩
    rw [show ((n + 1 : Nat) : Int) + -1 = n by omega]
    refine ih _ (by omega) (a.uz (by omega)) (fun k x => ?_) (fun k x y => ?_) (fun k x y => ?_)
    · rw [← b k x]
      simp only [iq_uz]
      rw [if_neg (fun e => by have := e.2; omega)]
    · rw [← c k x (by omega)]
      simp only [iq_uz]
      rw [if_neg (fun e => by have := e.2; omega)]
    · by_cases e : k = ((n + 1 : Nat) : Int)
      · rw [e]
        have := c ((n : Nat) : Int) (by omega) (by omega)
        rw [show (80 : Int) + ((n + 1 : Nat) : Int) - 1 = 80 + (n : Int) by omega, ← this]
        unfold iq_uz
        rw [if_pos ⟨rfl, rfl⟩]
      · rw [← d k (by omega) y]
        simp only [iq_uz]
        rw [if_neg (fun e' => by have := e'.2; omega)]
theorem sp180 {N : Nat} {xs : Nat → Int32} {Q : iq_T} {g : iq_I} {l : iq_J} {P : Int → Int} {S : Int64} {m : Int} {R : Int → Int} {t : Int} (hv : iq_ZV P S m R) (hM : iq_MS g 0 P S m R) (ht : -2147483648 ≤ t ∧ t ≤ 2147483647) (q1 : 0 ≤ t ∧ t < P 1 → iq_tb S t = false → ∀ g' : iq_I, iq_78 g g' → iq_MS g' 0 P (S ||| iq_of t) (min (m + 1) 12) (sf_sh R t) → Q (some (iq_i 1)) g' l) (q0 : ¬ ((0 ≤ t ∧ t < P 1) ∧ iq_tb S t = false) → Q (some (iq_i 0)) g l) : iq_P N xs 180 0 [some (iq_r 77), some (iq_i t), none] [] g l Q := by
  have hp1 := hv.1.2.1
  have hm := hv.2.2.1
  have e1 := hM.p 1 (by omega) (by omega)
  have e9 := hM.n
  refine B180_77 _ _ _ (sp158 ht (by omega) (fun a b => ⟨_, rfl, by omega, fun h => by omega, fun _ => ?_⟩) (fun a => ⟨_, rfl, by omega, fun _ => q0 (by rw [e1] at a; exact fun z => a z.1), fun h => by omega⟩))
  rw [e1] at b
  have es := hM.s t a (by omega)
  refine sp143 (by omega) ⟨_, rfl, ?_⟩
  rw [es]
  rcases hb : iq_tb S t with _ | _
  · refine ⟨by decide, fun _ => ⟨by omega, ?_⟩, fun h => by simp at h⟩
    have e9' : (iq_uz g 78 (20 + t) 1) 78 9 = m := by
      rw [← e9]; simp only [iq_uz]; rw [if_neg (fun e => by have := e.2; omega)]
    refine sp180_p (g := iq_uz g 78 (20 + t) 1) (by omega) (fun g' h1 h2 h3 h4 h5 => q1 ⟨a, b⟩ hb g' ⟨fun j hj => ?_, fun k hk => ?_⟩ (.mk0 (fun k x y => ?_) (fun u x y => ?_) ?_ (fun k x y => ?_))) 11 _ (by omega) (.refl _) (fun _ _ => rfl) (fun _ _ _ => rfl) (fun k x y => by omega)
    · rw [h1.1 j hj]; funext i; simp [iq_uz, hj]
    · rw [h1.2 k hk]
      simp only [iq_uz]; rw [if_neg (fun e => by have := e.2; omega)]
    · rw [h2 k (by omega) (by omega), ← hM.p k x y]
      simp only [iq_uz]; rw [if_neg (fun e => by have := e.2; omega)]
    · rw [h2 (20 + u) (by omega) (by omega), iq_tb_or, iq_tbof]
      by_cases e : u = t
      · rw [e]
        have : (decide (0 ≤ t) && decide (t < 64) && decide (t = t)) = true := by simp; omega
        rw [this, Bool.or_true]
        simp [iq_uz]
      · rw [decide_eq_false e, Bool.and_false, Bool.or_false, ← hM.s u x y]
        simp only [iq_uz]; rw [if_neg (fun e' => by have := e'.2; omega)]
    · rw [h3, e9']; omega
    · unfold sf_sh
      by_cases z : k = 0
      · rw [if_pos z, z]; exact h4
      · rw [if_neg z, h5 k (by omega) (by omega), ← hM.r (k - 1) (by omega) (by omega), show (80 : Int) + k - 1 = 80 + (k - 1) by omega]
        simp only [iq_uz]; rw [if_neg (fun e => by have := e.2; omega)]
  · exact ⟨by decide, fun h => by simp at h, fun _ => q0 (fun z => by rw [hb] at z; cases z.2)⟩
theorem sf_tbcl {S : Int64} {t u : Int} (ht : 0 ≤ t ∧ t < 64) (hu : 0 ≤ u ∧ u < 64) : iq_tb (S &&& (iq_of t ^^^ Int64.ofNat 18446744073709551615)) u = (iq_tb S u && !decide (u = t)) := by
  rw [show Int64.ofNat 18446744073709551615 = -1 by decide, iq_tb_and, iq_tb_xor, iq_tb_m1 hu.1 hu.2, iq_tbof, decide_eq_true ht.1, decide_eq_true ht.2]
  simp
theorem sp184 {N : Nat} {xs : Nat → Int32} {Q : iq_T} {g : iq_I} {l : iq_J} {P : Int → Int} {S : Int64} {m : Int} {R : Int → Int} {t : Int} (hv : iq_ZV P S m R) (hM : iq_MS g 0 P S m R) (ht : -2147483648 ≤ t ∧ t ≤ 2147483647) (q1 : 0 ≤ t ∧ t < P 1 → iq_tb S t = true → iq_MS (iq_uz g 78 (20 + t) 0) 0 P (S &&& (iq_of t ^^^ Int64.ofNat 18446744073709551615)) m R → Q (some (iq_i 1)) (iq_uz g 78 (20 + t) 0) l) (q0 : ¬ ((0 ≤ t ∧ t < P 1) ∧ iq_tb S t = true) → Q (some (iq_i 0)) g l) : iq_P N xs 184 0 [some (iq_r 77), some (iq_i t)] [] g l Q := by
  have hp1 := hv.1.2.1
  have hm := hv.2.2.1
  have e1 := hM.p 1 (by omega) (by omega)
  refine B184_77 _ _ _ (sp158 ht (by omega) (fun a b => ⟨_, rfl, by omega, fun h => by omega, fun _ => ?_⟩) (fun a => ⟨_, rfl, by omega, fun _ => q0 (by rw [e1] at a; exact fun z => a z.1), fun h => by omega⟩))
  rw [e1] at b
  have es := hM.s t a (by omega)
  refine sp143 (by omega) ⟨_, rfl, ?_⟩
  rw [es]
  rcases hb : iq_tb S t with _ | _
  · exact ⟨by decide, fun h => by simp at h, fun _ => q0 (fun z => by rw [hb] at z; cases z.2)⟩
  · refine ⟨by decide, fun _ => ⟨by omega, q1 ⟨a, b⟩ hb (.mk0 (fun k x y => ?_) (fun u x y => ?_) ?_ (fun k x y => ?_))⟩, fun h => by simp at h⟩
    · rw [← hM.p k x y]
      simp only [iq_uz]; rw [if_neg (fun e => by have := e.2; omega)]
    · rw [sf_tbcl (by omega) (by omega)]
      by_cases e : u = t
      · rw [e]; simp [iq_uz]
      · rw [decide_eq_false e, Bool.not_false, Bool.and_true, ← hM.s u x y]
        simp only [iq_uz]; rw [if_neg (fun e' => by have := e'.2; omega)]
    · rw [← hM.n]
      simp only [iq_uz]; rw [if_neg (fun e => by have := e.2; omega)]
    · rw [← hM.r k x y]
      simp only [iq_uz]; rw [if_neg (fun e => by have := e.2; omega)]
theorem mPress {N : Nat} {xs : Nat → Int32} {Q : iq_T} {g : iq_I} {l : iq_J} {P : Int → Int} {S : Int64} {m : Int} {R : Int → Int} {t : Int} (hv : iq_ZV P S m R) (hM : iq_MS g 0 P S m R) (ht : -2147483648 ≤ t ∧ t ≤ 2147483647) (q1 : (0 ≤ t ∧ t < P 1) ∧ iq_tb S t = false → ∀ g' : iq_I, iq_KM iq_Mm g l g' l → iq_MS g' 0 P (S ||| iq_of t) (min (m + 1) 12) (sf_sh R t) → g' 0 0 = g 0 0 → g' 77 1 = 0 → Q (some (iq_i (iq_cn (iq_tb (S ||| iq_of t)) 64))) g' l) (q0 : ¬ ((0 ≤ t ∧ t < P 1) ∧ iq_tb S t = false) → ∀ g' : iq_I, iq_KK g l g' l → g' 0 0 = g 0 0 → g' 77 1 = (if 0 ≤ t ∧ t < P 1 then 7 else 1) → Q (some (iq_i (-1))) g' l) : iq_P N xs 181 0 [some (iq_r 77), some (iq_i t)] [] g l Q := by
  have hp1 := hv.1.2.1
  have e1 := hM.p 1 (by omega) (by omega)
  refine B181_77 _ _ _ (sp158 ht (by omega) (fun a b => ⟨_, rfl, by omega, fun _ => ?_, fun h => by omega⟩) (fun a => ⟨_, rfl, by omega, fun h => by omega, fun _ => sp98 ⟨_, rfl, ?_⟩⟩))
  · rw [e1] at b
    refine sp180 hv hM ht (fun x y g' h7 h8 => ⟨_, rfl, by omega, fun h => by omega, fun _ => sp144m h8.s (hv.press x).b60 ⟨_, rfl, sp115 ⟨_, rfl, ?_⟩⟩⟩) (fun x => ⟨_, rfl, by omega, fun _ => sp98 ⟨_, rfl, ?_⟩, fun h => by omega⟩)
    · refine q1 ⟨x, y⟩ _ (h7.km.uz (.inl iq_sx771)) (.mk0 (fun k u v => ?_) (fun k u v => ?_) ?_ (fun k u v => ?_)) ?_ (by simp [iq_uz])
      · rw [← h8.p k u v]; simp [iq_uz]
      · rw [← h8.s k u v]; simp [iq_uz]
      · rw [← h8.n]; simp [iq_uz]
      · rw [← h8.r k u v]; simp [iq_uz]
      · rw [← h7.1 0 (by decide)]; simp [iq_uz]
    · refine q0 x _ ((iq_KK.refl _ _).uz iq_sx771) (by simp [iq_uz]) ?_
      rw [if_pos ⟨a, b⟩]; simp [iq_uz]
  · rw [e1] at a
    refine q0 (fun z => a z.1) _ ((iq_KK.refl _ _).uz iq_sx771) (by simp [iq_uz]) ?_
    rw [if_neg a]; simp [iq_uz]
theorem mLift {N : Nat} {xs : Nat → Int32} {Q : iq_T} {g : iq_I} {l : iq_J} {P : Int → Int} {S : Int64} {m : Int} {R : Int → Int} {t : Int} (hv : iq_ZV P S m R) (hM : iq_MS g 0 P S m R) (ht : -2147483648 ≤ t ∧ t ≤ 2147483647) (q1 : (0 ≤ t ∧ t < P 1) ∧ iq_tb S t = true → ∀ g' : iq_I, iq_KM iq_Mm g l g' l → iq_MS g' 0 P (S &&& (iq_of t ^^^ Int64.ofNat 18446744073709551615)) m R → g' 0 0 = g 0 0 → g' 77 1 = 0 → Q (some (iq_i (iq_cn (iq_tb (S &&& (iq_of t ^^^ Int64.ofNat 18446744073709551615))) 64))) g' l) (q0 : ¬ ((0 ≤ t ∧ t < P 1) ∧ iq_tb S t = true) → ∀ g' : iq_I, iq_KK g l g' l → g' 0 0 = g 0 0 → g' 77 1 = (if 0 ≤ t ∧ t < P 1 then 7 else 1) → Q (some (iq_i (-1))) g' l) : iq_P N xs 185 0 [some (iq_r 77), some (iq_i t)] [] g l Q := by
  have hp1 := hv.1.2.1
  have e1 := hM.p 1 (by omega) (by omega)
  refine B185_77 _ _ _ (sp158 ht (by omega) (fun a b => ⟨_, rfl, by omega, fun _ => ?_, fun h => by omega⟩) (fun a => ⟨_, rfl, by omega, fun h => by omega, fun _ => sp98 ⟨_, rfl, ?_⟩⟩))
  · rw [e1] at b
    refine sp184 hv hM ht (fun x y h8 => ⟨_, rfl, by omega, fun h => by omega, fun _ => sp144m h8.s (fun u hu => ?_) ⟨_, rfl, sp115 ⟨_, rfl, ?_⟩⟩⟩) (fun x => ⟨_, rfl, by omega, fun _ => sp98 ⟨_, rfl, ?_⟩, fun h => by omega⟩)
    · rw [iq_tb_and, Bool.and_eq_true] at hu
      exact hv.b60 u hu.1
    · refine q1 ⟨x, y⟩ _ ((((iq_78.refl g).uz (by omega)).km).uz (.inl iq_sx771)) (.mk0 (fun k u v => ?_) (fun k u v => ?_) ?_ (fun k u v => ?_)) (by simp [iq_uz]) (by simp [iq_uz])
      · rw [← h8.p k u v]; simp [iq_uz]
      · rw [← h8.s k u v]; simp [iq_uz]
      · rw [← h8.n]; simp [iq_uz]
      · rw [← h8.r k u v]; simp [iq_uz]
    · refine q0 x _ ((iq_KK.refl _ _).uz iq_sx771) (by simp [iq_uz]) ?_
      rw [if_pos ⟨a, b⟩]; simp [iq_uz]
  · rw [e1] at a
    refine q0 (fun z => a z.1) _ ((iq_KK.refl _ _).uz iq_sx771) (by simp [iq_uz]) ?_
    rw [if_neg a]; simp [iq_uz]
