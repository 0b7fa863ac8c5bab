/-! keys and names. -/
def iq_kt (P : Int → Int) (x y : Int) : Int := (x * P 7 + y * P 8) % P 1
theorem iq_ktR {P : Int → Int} (hp : iq_pb P) (x y : Int) : 0 ≤ iq_kt P x y ∧ iq_kt P x y < P 1 := by
  have := hp.2.1
  exact ⟨Int.emod_nonneg _ (by omega), Int.emod_lt_of_pos _ (by omega)⟩
theorem sp247 {N : Nat} {xs : Nat → Int32} {Q : iq_T} {g : iq_I} {l : iq_J} {k : Int} (hs : iq_SR g l 23 24 25 0) (hk : 0 ≤ k ∧ k < 72) (q : Q (some (iq_i (iq_kt (g 24) (k / 6) (k % 6)))) g l) : iq_P N xs 247 0 [some (iq_r 77), some (iq_i k)] [] g l Q := by
  have hp := hs.1
  obtain ⟨p0, p1, p2, p3, p4, p5, p6, p7, p8⟩ := hp
  have m1 := iq_mulR (a := k / 6) (b := g 24 7) (x := 12) (y := 60) (by omega) (by omega) (by omega) (by omega)
  have m2 := iq_mulR (a := k % 6) (b := g 24 8) (x := 6) (y := 60) (by omega) (by omega) (by omega) (by omega)
  refine B247_77 _ _ _ ⟨by omega, by omega, ?_⟩
  rw [Int.tmod_eq_emod_of_nonneg (by omega), Int.tdiv_eq_ediv_of_nonneg (by omega), hs.p78 7 (by omega) (by omega), hs.p78 8 (by omega) (by omega), hs.p78 1 (by omega) (by omega)]
  exact sp111 (by omega) (by omega) ⟨_, rfl, q⟩
theorem sp245k {N : Nat} {xs : Nat → Int32} {Q : iq_T} {g : iq_I} {l : iq_J} {x y : Int} (hs : iq_SR g l 23 24 25 0) (h1 : 0 ≤ x ∧ x ≤ 100) (h2 : 0 ≤ y ∧ y ≤ 100) (q : Q (some (iq_i (iq_kt (g 24) x y))) g l) : iq_P N xs 245 0 [some (iq_r 23), some (iq_i x), some (iq_i y)] [] g l Q := sp245 hs.1 h1 h2 q
def aKeyTone (P : Int → Int) (x y : Int) : Int × Int := if (0 ≤ x ∧ x < 12) ∧ 0 ≤ y ∧ y < 6 then (iq_kt P x y, 0) else (-1, 1)
theorem cKeyTone {N : Nat} {xs : Nat → Int32} {Q : iq_T} {g : iq_I} {l : iq_J} {x y : Int} (hs : iq_SR g l 23 24 25 0) (hx : -2147483648 ≤ x ∧ x ≤ 2147483647) (hy : -2147483648 ≤ y ∧ y ≤ 2147483647) (q : ∀ (g' : iq_I) (l' : iq_J), iq_KK g l g' l' → g' 0 0 = (aKeyTone (g 24) x y).2 → Q (some (iq_i (aKeyTone (g 24) x y).1)) g' l') : iq_P N xs 246 0 [some (iq_r 0), some (iq_i x), some (iq_i y)] [] g l Q := by
  unfold aKeyTone at q
  have no : ¬ ((0 ≤ x ∧ x < 12) ∧ 0 ≤ y ∧ y < 6) → iq_P N xs 44 0 [some (iq_r 0), some (iq_i 1)] [] g l (fun r g1 l2 => ∃ z3, r = some (iq_i z3) ∧ (Q (some (iq_i z3)) g1 l2)) := fun c => by
    rw [if_neg c] at q
    exact sp44 ⟨_, rfl, q _ _ ((iq_KK.refl _ _).uz iq_sx00) (by simp [iq_uz])⟩
  refine B246_0 _ _ _ _ ⟨by omega, fun c => no (by omega), fun c => ⟨by omega, fun c2 => no (by omega), fun c2 => ⟨by omega, fun c3 => no (by omega), fun c3 => ⟨by omega, fun c4 => ?_, fun c4 => no (by omega)⟩⟩⟩⟩
  rw [if_pos ⟨⟨c, c2⟩, c3, c4⟩] at q
  exact sp245k hs (by omega) (by omega) ⟨_, rfl, sp90 ⟨_, rfl, q _ _ ((iq_KK.refl _ _).uz iq_sx00) (by simp [iq_uz])⟩⟩
theorem iq_of11 : (Int64.ofNat 11).toInt = 11 := by decide
theorem iq_of5 : (Int64.ofNat 5).toInt = 5 := by decide
theorem mKeyTone {N : Nat} {xs : Nat → Int32} {Q : iq_T} {g : iq_I} {l : iq_J} {x y : Int} (hs : iq_SR g l 23 24 25 0) (hx : -2147483648 ≤ x ∧ x ≤ 2147483647) (hy : -2147483648 ≤ y ∧ y ≤ 2147483647) (q : ∀ (g' : iq_I) (l' : iq_J), iq_KK g l g' l' → g' 0 0 = g 0 0 → g' 77 1 = (aKeyTone (g 24) x y).2 → Q (some (iq_i (aKeyTone (g 24) x y).1)) g' l') : iq_P N xs 248 0 [some (iq_r 77), some (iq_i x), some (iq_i y)] [] g l Q := by
  unfold aKeyTone at q
  have ex := iq_i2lv hx.1 hx.2
  have ey := iq_i2lv hy.1 hy.2
  refine B248_77 _ _ _ _ (sp149 (fun c c2 => ⟨_, rfl, by omega, fun h => by omega, fun _ => sp149 (fun c3 c4 => ⟨_, rfl, by omega, fun h => by omega, fun _ => ?_⟩) (fun c3 => ⟨_, rfl, by omega, fun _ => sp98 ⟨_, rfl, ?_⟩, fun h => by omega⟩)⟩) (fun c => ⟨_, rfl, by omega, fun _ => sp98 ⟨_, rfl, ?_⟩, fun h => by omega⟩))
  · rw [ex, iq_of640] at c
    rw [ex, iq_of11] at c2
    rw [ey, iq_of640] at c3
    rw [ey, iq_of5] at c4
    rw [if_pos ⟨⟨c, by omega⟩, c3, by omega⟩] at q
    refine sp247 hs (by omega) ⟨_, rfl, sp115 ⟨_, rfl, ?_⟩⟩
    rw [show (6 * x + y) / 6 = x by omega, show (6 * x + y) % 6 = y by omega]
    exact q _ _ ((iq_KK.refl _ _).uz iq_sx771) (by simp [iq_uz]) (by simp [iq_uz])
  · rw [ey, iq_of640, iq_of5] at c3
    rw [if_neg (by omega)] at q
    exact q _ _ ((iq_KK.refl _ _).uz iq_sx771) (by simp [iq_uz]) (by simp [iq_uz])
  · rw [ex, iq_of640, iq_of11] at c
    rw [if_neg (by omega)] at q
    exact q _ _ ((iq_KK.refl _ _).uz iq_sx771) (by simp [iq_uz]) (by simp [iq_uz])
/-! sums -/
theorem iq_sm_add (f h : Int → Int) (n : Nat) : iq_sm (fun i => f i + h i) n = iq_sm f n + iq_sm h n := by
  induction n with
  | zero => rfl
  | succ n ih => rw [iq_sm, iq_sm, iq_sm, ih]; omega
theorem iq_sm_split (f : Int → Int) (a b : Nat) : iq_sm f (a + b) = iq_sm f a + iq_sm (fun i => f (a + i)) b := by
  induction b with
  | zero => rw [iq_sm]; simp
  | succ b ih =>
    rw [show a + (b + 1) = (a + b) + 1 by omega, iq_sm, iq_sm, ih, show ((a + b : Nat) : Int) = (a : Int) + b by omega]
    omega
theorem iq_sm_ex (F : Int → Int → Int) (a b : Nat) (hb : 0 < b) : iq_sm (fun y => iq_sm (fun x => F x y) a) b = iq_sm (fun k => F (k / b) (k % b)) (a * b) := by
  induction a with
  | zero =>
    rw [Nat.zero_mul, iq_sm]
    have : ∀ n : Nat, iq_sm (fun y => iq_sm (fun x => F x y) 0) n = 0 := by
      intro n
      induction n with
      | zero => rfl
      | succ n ih => rw [iq_sm, ih]; rfl
    exact this b
  | succ a ih =>
    have e1 : iq_sm (fun y => iq_sm (fun x => F x y) (a + 1)) b = iq_sm (fun y => iq_sm (fun x => F x y) a + F a y) b := iq_sm_congr (fun i _ _ => rfl)
    rw [e1, iq_sm_add, ih, Nat.succ_mul, iq_sm_split]
    congr 1
    refine iq_sm_congr (fun i h1 h2 => ?_)
    have e2 : (((a * b : Nat) : Int) + i) / b = a := by
      rw [show ((a * b : Nat) : Int) + i = i + (b : Int) * a by rw [Int.mul_comm]; push_cast; omega, Int.add_mul_ediv_left _ _ (by omega), Int.ediv_eq_zero_of_lt h1 h2]
      omega
    have e3 : (((a * b : Nat) : Int) + i) % b = i := by
      rw [show ((a * b : Nat) : Int) + i = i + (b : Int) * a by rw [Int.mul_comm]; push_cast; omega, Int.add_mul_emod_self_left]
      exact Int.emod_eq_of_lt h1 h2
    try dsimp only
    rw [e2, e3]
/-! how many keys -/
def iq_kf (P : Int → Int) (t x y : Int) : Int := if iq_kt P x y = t then 1 else 0
def aKeys (P : Int → Int) (t : Int) : Int × Int := if 0 ≤ t ∧ t < P 1 then (iq_sm (fun k => iq_kf P t (k / 6) (k % 6)) 72, 0) else (-1, 1)
theorem kfR (P : Int → Int) (t x y : Int) : 0 ≤ iq_kf P t x y ∧ iq_kf P t x y ≤ 1 := by
  unfold iq_kf; split <;> omega
theorem sp249i {N : Nat} {xs : Nat → Int32} {Q : iq_T} {g : iq_I} {l : iq_J} {t : Int} (hs : iq_SR g l 23 24 25 0) (ht : -2147483648 ≤ t ∧ t ≤ 2147483647) {y v : Int} (hy : 0 ≤ y ∧ y < 6) (q : ∀ d4, iq_P N xs 249 21 [some (iq_r 0), some (iq_i t), some (iq_i (v + iq_sm (fun x => iq_kf (g 24) t x y) 12)), some (iq_i (y + 1)), d4] [] g l Q) (n : Nat) : ∀ x : Nat, x + n = 12 → iq_P N xs 249 30 [some (iq_r 0), some (iq_i t), some (iq_i (v + iq_sm (fun x => iq_kf (g 24) t x y) x)), some (iq_i y), some (iq_i x)] [] g l Q := by
  have hp1 := hs.1.2.1
  induction n with
  | zero =>
    intro x h
    rw [show 12 = x by omega] at q
    exact B249_p30_0 _ _ _ _ _ _ ⟨by omega, fun h => q _, fun h => by omega⟩
  | succ n ih =>
    intro x h
    have := ih (x + 1) (by omega)
    rw [iq_sm] at this
    have hr := iq_ktR hs.1 x y
    refine B249_p30_0 _ _ _ _ _ _ ⟨by omega, fun h => by omega, fun h => sp245k hs (by omega) (by omega) ⟨_, rfl, by omega, fun c => ?_, fun c => ?_⟩⟩
    · rw [show iq_kf (g 24) t x y = 0 from if_neg c, ← Int.add_assoc] at this
      exact this
    · rw [show iq_kf (g 24) t x y = 1 from if_pos c, ← Int.add_assoc] at this
      exact this
theorem sp249o {N : Nat} {xs : Nat → Int32} {Q : iq_T} {g : iq_I} {l : iq_J} {t : Int} (hs : iq_SR g l 23 24 25 0) (ht : -2147483648 ≤ t ∧ t ≤ 2147483647) (q : Q (some (iq_i (iq_sm (fun y => iq_sm (fun x => iq_kf (g 24) t x y) 12) 6))) (iq_uz g 0 0 0) l) (n : Nat) : ∀ (y : Nat) (d4 : Option iq_V), y + n = 6 → iq_P N xs 249 21 [some (iq_r 0), some (iq_i t), some (iq_i (iq_sm (fun y => iq_sm (fun x => iq_kf (g 24) t x y) 12) y)), some (iq_i y), d4] [] g l Q := by
  induction n with
  | zero =>
    intro y d4 h
    rw [show 6 = y by omega] at q
    exact B249_p21_0 _ _ _ _ _ _ ⟨by omega, fun h => sp90 ⟨_, rfl, q⟩, fun h => by omega⟩
  | succ n ih =>
    intro y d4 h
    refine B249_p21_0 _ _ _ _ _ _ ⟨by omega, fun h => by omega, fun h2 => ?_⟩
    have := sp249i (N := N) (xs := xs) (Q := Q) (v := iq_sm (fun y => iq_sm (fun x => iq_kf (g 24) t x y) 12) y) hs ht (y := y) (by omega) (fun d4 => ih (y + 1) d4 (by omega)) 12 0 (by omega)
    rw [iq_sm, Int.add_zero] at this
    exact this
theorem cKeys {N : Nat} {xs : Nat → Int32} {Q : iq_T} {g : iq_I} {l : iq_J} {t : Int} (hs : iq_SR g l 23 24 25 0) (hd : -2147483648 ≤ t ∧ t ≤ 2147483647) (q : ∀ (g' : iq_I) (l' : iq_J), iq_KK g l g' l' → g' 0 0 = (aKeys (g 24) t).2 → Q (some (iq_i (aKeys (g 24) t).1)) g' l') : iq_P N xs 249 0 [some (iq_r 0), some (iq_i t), none, none, none] [] g l Q := by
  unfold aKeys at q
  have hp1 := hs.1.2.1
  refine B249_0 _ _ _ (sp77_23 hd (by omega) (fun a b => ⟨_, rfl, by omega, fun _ => sp249o hs hd ?_ 6 0 none (by omega), fun h => by omega⟩) (fun a => ⟨_, rfl, by omega, fun h => by omega, fun _ => sp44 ⟨_, rfl, ?_⟩⟩))
  · rw [if_pos ⟨a, b⟩] at q
    rw [iq_sm_ex (iq_kf (g 24) t) 12 6 (by omega)]
    exact q _ _ ((iq_KK.refl _ _).uz iq_sx00) (by simp [iq_uz])
  · rw [if_neg a] at q
    exact q _ _ ((iq_KK.refl _ _).uz iq_sx00) (by simp [iq_uz])
theorem sp250_p {N : Nat} {xs : Nat → Int32} {Q : iq_T} {g : iq_I} {l : iq_J} {t : Int} (hs : iq_SR g l 23 24 25 0) (ht : -2147483648 ≤ t ∧ t ≤ 2147483647) (q : Q (some (iq_i (iq_sm (fun k => iq_kf (g 24) t (k / 6) (k % 6)) 72))) (iq_uz g 77 1 0) l) (n : Nat) : ∀ k : Nat, k + n = 72 → iq_P N xs 250 18 [some (iq_r 77), some (iq_i t), some (iq_i (iq_sm (fun k => iq_kf (g 24) t (k / 6) (k % 6)) k)), some (iq_i k)] [] g l Q := by
  have hp1 := hs.1.2.1
  induction n with
  | zero =>
    intro k h
    rw [show 72 = k by omega] at q
    exact B250_p18_77 _ _ _ _ _ ⟨by omega, fun h => sp115 ⟨_, rfl, q⟩, fun h => by omega⟩
  | succ n ih =>
    intro k h
    have := ih (k + 1) (by omega)
    rw [iq_sm] at this
    have hr := iq_ktR hs.1 ((k : Int) / 6) ((k : Int) % 6)
    refine B250_p18_77 _ _ _ _ _ ⟨by omega, fun h => by omega, fun h => sp247 hs (by omega) ⟨_, rfl, by omega, fun c => ?_, fun c => ?_⟩⟩
    · rw [show iq_kf (g 24) t ((k : Int) / 6) ((k : Int) % 6) = 0 from if_neg c] at this
      exact this
    · rw [show iq_kf (g 24) t ((k : Int) / 6) ((k : Int) % 6) = 1 from if_pos c] at this
      exact this
theorem mKeys {N : Nat} {xs : Nat → Int32} {Q : iq_T} {g : iq_I} {l : iq_J} {t : Int} (hs : iq_SR g l 23 24 25 0) (hd : -2147483648 ≤ t ∧ t ≤ 2147483647) (q : ∀ (g' : iq_I) (l' : iq_J), iq_KK g l g' l' → g' 0 0 = g 0 0 → g' 77 1 = (aKeys (g 24) t).2 → Q (some (iq_i (aKeys (g 24) t).1)) g' l') : iq_P N xs 250 0 [some (iq_r 77), some (iq_i t), none, none] [] g l Q := by
  unfold aKeys at q
  have hp1 := hs.1.2.1
  have e1 := hs.p78 1 (by omega) (by omega)
  refine B250_77 _ _ _ (sp158 hd (by omega) (fun a b => ⟨_, rfl, by omega, fun _ => sp250_p hs hd ?_ 72 0 (by omega), fun h => by omega⟩) (fun a => ⟨_, rfl, by omega, fun h => by omega, fun _ => sp98 ⟨_, rfl, ?_⟩⟩))
  · rw [e1] at b
    rw [if_pos ⟨a, b⟩] at q
    exact q _ _ ((iq_KK.refl _ _).uz iq_sx771) (by simp [iq_uz]) (by simp [iq_uz])
  · rw [e1] at a
    rw [if_neg a] at q
    exact q _ _ ((iq_KK.refl _ _).uz iq_sx771) (by simp [iq_uz]) (by simp [iq_uz])
/-! the best key -/
def iq_ki (P : Int → Int) (t s : Int) : Nat → Int → Int
  | 0, _ => -1
  | n + 1, y => if s < y then -1 else if 12 ≤ s - y then iq_ki P t s n (y + 1) else if iq_kt P (s - y) y = t then 6 * (s - y) + y else iq_ki P t s n (y + 1)
def iq_ko (P : Int → Int) (t : Int) : Nat → Int → Int
  | 0, _ => -1
  | n + 1, s => if iq_ki P t s 6 0 = -1 then iq_ko P t n (s + 1) else iq_ki P t s 6 0
theorem iq_kiR {P : Int → Int} {t s : Int} (n : Nat) : ∀ y : Int, 0 ≤ y → y + n = 6 → iq_ki P t s n y = -1 ∨ ∃ z, y ≤ z ∧ z < 6 ∧ z ≤ s ∧ s - z < 12 ∧ iq_ki P t s n y = 6 * (s - z) + z ∧ iq_kt P (s - z) z = t := by
  induction n with
  | zero => intro y _ _; left; rfl
  | succ n ih =>
    intro y h1 h2
    rw [iq_ki]
    split
    · left; rfl
    · split
      · rcases ih (y + 1) (by omega) (by omega) with h | ⟨z, a, b, c, d, e, f⟩
        · exact .inl h
        · exact .inr ⟨z, by omega, b, c, d, e, f⟩
      · split
        · next h => exact .inr ⟨y, by omega, by omega, by omega, by omega, rfl, h⟩
        · rcases ih (y + 1) (by omega) (by omega) with h | ⟨z, a, b, c, d, e, f⟩
          · exact .inl h
          · exact .inr ⟨z, by omega, b, c, d, e, f⟩
theorem iq_kiN {P : Int → Int} {t s : Int} (n : Nat) : ∀ y : Int, 0 ≤ y → y + n = 6 → iq_ki P t s n y = -1 → ∀ z, y ≤ z → z < 6 → z ≤ s → s - z < 12 → ¬ iq_kt P (s - z) z = t := by
  induction n with
  | zero => intro y _ h2 _ z; omega
  | succ n ih =>
    intro y h1 h2 h z a b c d
    rw [iq_ki] at h
    rw [if_neg (by omega)] at h
    by_cases e : 12 ≤ s - y
    · rw [if_pos e] at h
      exact ih (y + 1) (by omega) (by omega) h z (by omega) b c d
    · rw [if_neg e] at h
      by_cases k : iq_kt P (s - y) y = t
      · rw [if_pos k] at h; omega
      · rw [if_neg k] at h
        by_cases j : z = y
        · rw [j]; exact k
        · exact ih (y + 1) (by omega) (by omega) h z (by omega) b c d
theorem iq_koR {P : Int → Int} {t : Int} (n : Nat) : ∀ s : Int, 0 ≤ s → iq_ko P t n s = -1 ∨ ∃ x y, 0 ≤ x ∧ x < 12 ∧ 0 ≤ y ∧ y < 6 ∧ iq_ko P t n s = 6 * x + y ∧ iq_kt P x y = t := by
  induction n with
  | zero => intro s _; left; rfl
  | succ n ih =>
    intro s h
    rw [iq_ko]
    split
    · exact ih (s + 1) (by omega)
    · next c =>
      rcases iq_kiR (P := P) (t := t) (s := s) 6 0 (by omega) (by omega) with h | ⟨z, a, b, c, d, e, f⟩
      · exact (c h).elim
      · exact .inr ⟨s - z, z, by omega, d, a, b, e, f⟩
theorem iq_koN {P : Int → Int} {t : Int} (n : Nat) : ∀ s : Int, 0 ≤ s → s + n = 18 → iq_ko P t n s = -1 → ∀ x y, 0 ≤ x → x < 12 → 0 ≤ y → y < 6 → s ≤ x + y → ¬ iq_kt P x y = t := by
  induction n with
  | zero => intro s _ h _ x y; omega
  | succ n ih =>
    intro s h1 h2 h x y a b c d e
    rw [iq_ko] at h
    by_cases k : iq_ki P t s 6 0 = -1
    · rw [if_pos k] at h
      by_cases j : s = x + y
      · have := iq_kiN 6 0 (by omega) (by omega) k y c d (by omega) (by omega)
        rw [show s - y = x by omega] at this
        exact this
      · exact ih (s + 1) (by omega) (by omega) h x y a b c d (by omega)
    · rw [if_neg k] at h
      exact (k h).elim
def aKeyOf (P : Int → Int) (t w : Int) : Int × Int := if (0 ≤ t ∧ t < P 1) ∧ 0 ≤ w ∧ w ≤ 1 then (if iq_ko P t 18 0 = -1 then (-1, 6) else (if w = 0 then iq_ko P t 18 0 / 6 else iq_ko P t 18 0 % 6, 0)) else (-1, 1)
theorem sp251i {N : Nat} {xs : Nat → Int32} {Q : iq_T} {g : iq_I} {l : iq_J} {t w : Int} (hs : iq_SR g l 23 24 25 0) (ht : -2147483648 ≤ t ∧ t ≤ 2147483647) (hw : 0 ≤ w ∧ w ≤ 1) {s : Int} (hs0 : 0 ≤ s ∧ s < 18) (n : Nat) : ∀ (y : Int) (d5 : Option iq_V), 0 ≤ y → y + n = 6 → (iq_ki (g 24) t s n y = -1 → ∀ d4 d5, iq_P N xs 251 28 [some (iq_r 0), some (iq_i t), some (iq_i w), some (iq_i (s + 1)), d4, d5] [] g l Q) → (¬ iq_ki (g 24) t s n y = -1 → Q (some (iq_i (if w = 0 then iq_ki (g 24) t s n y / 6 else iq_ki (g 24) t s n y % 6))) (iq_uz g 0 0 0) l) → iq_P N xs 251 37 [some (iq_r 0), some (iq_i t), some (iq_i w), some (iq_i s), some (iq_i y), d5] [] g l Q := by
  have hp1 := hs.1.2.1
  induction n with
  | zero =>
    intro y d5 h1 h2 q1 q0
    exact B251_p37_0 _ _ _ _ _ _ _ ⟨by omega, fun h => q1 rfl _ _, fun h => by omega⟩
  | succ n ih =>
    intro y d5 h1 h2 q1 q0
    rw [iq_ki] at q1 q0
    have hr := iq_ktR hs.1 (s - y) y
    refine B251_p37_0 _ _ _ _ _ _ _ ⟨by omega, fun h => by omega, fun h => ⟨by omega, fun c => ?_, fun c => ⟨by omega, fun c2 => ?_, fun c2 => sp245k hs (by omega) (by omega) ⟨_, rfl, by omega, fun c3 => ?_, fun c3 => ⟨by omega, fun c4 => sp90 ⟨_, rfl, ?_⟩, fun c4 => sp90 ⟨_, rfl, ?_⟩⟩⟩⟩⟩⟩
    · rw [if_pos c] at q1
      exact q1 rfl _ _
    · rw [if_neg (by omega), if_pos c2] at q1 q0
      exact ih (y + 1) _ (by omega) (by omega) q1 q0
    · rw [if_neg (by omega), if_neg (by omega), if_neg c3] at q1 q0
      exact ih (y + 1) _ (by omega) (by omega) q1 q0
    · rw [if_neg (by omega), if_neg (by omega), if_pos c3] at q0
      have := q0 (by omega)
      rw [if_neg c4, show (6 * (s - y) + y) % 6 = y by omega] at this
      exact this
    · rw [if_neg (by omega), if_neg (by omega), if_pos c3] at q0
      have := q0 (by omega)
      rw [if_pos c4, show (6 * (s - y) + y) / 6 = s - y by omega] at this
      exact this
theorem sp251o {N : Nat} {xs : Nat → Int32} {Q : iq_T} {g : iq_I} {l : iq_J} {t w : Int} (hs : iq_SR g l 23 24 25 0) (ht : -2147483648 ≤ t ∧ t ≤ 2147483647) (hw : 0 ≤ w ∧ w ≤ 1) (n : Nat) : ∀ (s : Int) (d4 d5 : Option iq_V), 0 ≤ s → s + n = 18 → (iq_ko (g 24) t n s = -1 → Q (some (iq_i (-1))) (iq_uz g 0 0 6) l) → (¬ iq_ko (g 24) t n s = -1 → Q (some (iq_i (if w = 0 then iq_ko (g 24) t n s / 6 else iq_ko (g 24) t n s % 6))) (iq_uz g 0 0 0) l) → iq_P N xs 251 28 [some (iq_r 0), some (iq_i t), some (iq_i w), some (iq_i s), d4, d5] [] g l Q := by
  induction n with
  | zero =>
    intro s d4 d5 h1 h2 q1 q0
    exact B251_p28_0 _ _ _ _ _ _ _ ⟨by omega, fun h => sp44 ⟨_, rfl, q1 rfl⟩, fun h => by omega⟩
  | succ n ih =>
    intro s d4 d5 h1 h2 q1 q0
    rw [iq_ko] at q1 q0
    refine B251_p28_0 _ _ _ _ _ _ _ ⟨by omega, fun h => by omega, fun h => sp251i hs ht hw (by omega) 6 0 _ (by omega) (by omega) (fun c d4 d5 => ?_) (fun c => ?_)⟩
    · rw [if_pos c] at q1 q0
      exact ih (s + 1) d4 d5 (by omega) (by omega) q1 q0
    · rw [if_neg c] at q0
      exact q0 c
theorem cKeyOf {N : Nat} {xs : Nat → Int32} {Q : iq_T} {g : iq_I} {l : iq_J} {t w : Int} (hs : iq_SR g l 23 24 25 0) (hd : -2147483648 ≤ t ∧ t ≤ 2147483647) (he : -2147483648 ≤ w ∧ w ≤ 2147483647) (q : ∀ (g' : iq_I) (l' : iq_J), iq_KK g l g' l' → g' 0 0 = (aKeyOf (g 24) t w).2 → Q (some (iq_i (aKeyOf (g 24) t w).1)) g' l') : iq_P N xs 251 0 [some (iq_r 0), some (iq_i t), some (iq_i w), none, none, none] [] g l Q := by
  unfold aKeyOf at q
  have hp1 := hs.1.2.1
  have no : ¬ ((0 ≤ t ∧ t < g 24 1) ∧ 0 ≤ w ∧ w ≤ 1) → iq_P N xs 44 0 [some (iq_r 0), some (iq_i 1)] [] g l (fun r g1 l2 => ∃ z3, r = some (iq_i z3) ∧ (Q (some (iq_i z3)) g1 l2)) := fun c => by
    rw [if_neg c] at q
    exact sp44 ⟨_, rfl, q _ _ ((iq_KK.refl _ _).uz iq_sx00) (by simp [iq_uz])⟩
  refine B251_0 _ _ _ _ (sp77_23 hd (by omega) (fun a b => ⟨_, rfl, by omega, fun h => by omega, fun _ => ⟨by omega, fun c => no (by omega), fun c => ⟨by omega, fun c2 => ?_, fun c2 => no (by omega)⟩⟩⟩) (fun a => ⟨_, rfl, by omega, fun _ => no (by omega), fun h => by omega⟩))
  rw [if_pos ⟨⟨a, b⟩, c, c2⟩] at q
  refine sp251o hs hd ⟨c, c2⟩ 18 0 none none (by omega) (by omega) (fun d => ?_) (fun d => ?_)
  · rw [if_pos d] at q
    exact q _ _ ((iq_KK.refl _ _).uz iq_sx00) (by simp [iq_uz])
  · rw [if_neg d] at q
    exact q _ _ ((iq_KK.refl _ _).uz iq_sx00) (by simp [iq_uz])
theorem sp252i {N : Nat} {xs : Nat → Int32} {Q : iq_T} {g : iq_I} {l : iq_J} {t : Int} (hs : iq_SR g l 23 24 25 0) (ht : -2147483648 ≤ t ∧ t ≤ 2147483647) {s : Int} (hs0 : 0 ≤ s ∧ s < 18) (n : Nat) : ∀ (y : Int), 0 ≤ y → y + n = 6 → (iq_ki (g 24) t s n y = -1 → ∀ d3, iq_P N xs 252 2 [some (iq_r 77), some (iq_i t), some (iq_i (s + 1)), d3] [] g l Q) → (¬ iq_ki (g 24) t s n y = -1 → Q (some (iq_i (iq_ki (g 24) t s n y))) g l) → iq_P N xs 252 10 [some (iq_r 77), some (iq_i t), some (iq_i s), some (iq_i y)] [] g l Q := by
  have hp1 := hs.1.2.1
  induction n with
  | zero =>
    intro y h1 h2 q1 q0
    exact B252_p10_77 _ _ _ _ _ ⟨by omega, fun h => q1 rfl _, fun h => by omega⟩
  | succ n ih =>
    intro y h1 h2 q1 q0
    rw [iq_ki] at q1 q0
    have hr := iq_ktR hs.1 (s - y) y
    refine B252_p10_77 _ _ _ _ _ ⟨by omega, fun h => by omega, fun h => ⟨by omega, fun c => ?_, fun c => ⟨by omega, fun c2 => ?_, fun c2 => sp247 hs (by omega) ?_⟩⟩⟩
    · rw [if_pos c] at q1
      exact q1 rfl _
    · rw [if_neg (by omega), if_pos c2] at q1 q0
      exact ih (y + 1) (by omega) (by omega) q1 q0
    · rw [show (6 * (s - y) + y) / 6 = s - y by omega, show (6 * (s - y) + y) % 6 = y by omega]
      refine ⟨_, rfl, by omega, fun c3 => ?_, fun c3 => ?_⟩
      · rw [if_neg (by omega), if_neg (by omega), if_neg c3] at q1 q0
        exact ih (y + 1) (by omega) (by omega) q1 q0
      · rw [if_neg (by omega), if_neg (by omega), if_pos c3] at q0
        exact q0 (by omega)
theorem sp252o {N : Nat} {xs : Nat → Int32} {Q : iq_T} {g : iq_I} {l : iq_J} {t : Int} (hs : iq_SR g l 23 24 25 0) (ht : -2147483648 ≤ t ∧ t ≤ 2147483647) (n : Nat) : ∀ (s : Int) (d3 : Option iq_V), 0 ≤ s → s + n = 18 → Q (some (iq_i (iq_ko (g 24) t n s))) g l → iq_P N xs 252 2 [some (iq_r 77), some (iq_i t), some (iq_i s), d3] [] g l Q := by
  induction n with
  | zero =>
    intro s d3 h1 h2 q
    exact B252_p2_77 _ _ _ _ _ ⟨by omega, fun h => q, fun h => by omega⟩
  | succ n ih =>
    intro s d3 h1 h2 q
    rw [iq_ko] at q
    refine B252_p2_77 _ _ _ _ _ ⟨by omega, fun h => by omega, fun h => sp252i hs ht (by omega) 6 0 (by omega) (by omega) (fun c d3 => ?_) (fun c => ?_)⟩
    · rw [if_pos c] at q
      exact ih (s + 1) d3 (by omega) (by omega) q
    · rw [if_neg c] at q
      exact q
theorem sp252 {N : Nat} {xs : Nat → Int32} {Q : iq_T} {g : iq_I} {l : iq_J} {t : Int} (hs : iq_SR g l 23 24 25 0) (ht : -2147483648 ≤ t ∧ t ≤ 2147483647) (q : Q (some (iq_i (iq_ko (g 24) t 18 0))) g l) : iq_P N xs 252 0 [some (iq_r 77), some (iq_i t), none, none] [] g l Q :=
  B252_77 _ _ _ (sp252o hs ht 18 0 none (by omega) (by omega) q)
theorem mKeyOf {N : Nat} {xs : Nat → Int32} {Q : iq_T} {g : iq_I} {l : iq_J} {t w : Int} (hs : iq_SR g l 23 24 25 0) (hd : -2147483648 ≤ t ∧ t ≤ 2147483647) (he : -2147483648 ≤ w ∧ w ≤ 2147483647) (q : ∀ (g' : iq_I) (l' : iq_J), iq_KK g l g' l' → g' 0 0 = g 0 0 → g' 77 1 = (aKeyOf (g 24) t w).2 → Q (some (iq_i (aKeyOf (g 24) t w).1)) g' l') : iq_P N xs 253 0 [some (iq_r 77), some (iq_i t), some (iq_i w), none] [] g l Q := by
  unfold aKeyOf at q
  have hp1 := hs.1.2.1
  have e1 := hs.p78 1 (by omega) (by omega)
  have no : ¬ ((0 ≤ t ∧ t < g 24 1) ∧ 0 ≤ w ∧ w ≤ 1) → iq_P N xs 98 0 [some (iq_r 77), some (iq_i 1)] [] g l (fun r g1 l2 => ∃ z3, r = some (iq_i z3) ∧ (Q (some (iq_i z3)) g1 l2)) := fun c => by
    rw [if_neg c] at q
    exact sp98 ⟨_, rfl, q _ _ ((iq_KK.refl _ _).uz iq_sx771) (by simp [iq_uz]) (by simp [iq_uz])⟩
  refine B253_77 _ _ _ _ (sp158 hd (by omega) (fun a b => ⟨_, rfl, by omega, fun h => by omega, fun _ => ⟨by omega, fun c => no (by omega), fun c => ⟨by omega, fun c2 => sp252 hs hd ⟨_, rfl, ?_⟩, fun c2 => no (by omega)⟩⟩⟩) (fun a => ⟨_, rfl, by omega, fun _ => no (by omega), fun h => by omega⟩))
  rw [if_pos ⟨⟨a, by omega⟩, c, c2⟩] at q
  have hko := iq_koR (P := g 24) (t := t) 18 0 (by omega)
  have hkR : -1 ≤ iq_ko (g 24) t 18 0 ∧ iq_ko (g 24) t 18 0 < 72 := by
    rcases hko with h | ⟨x, y, h1, h2, h3, h4, h5, -⟩ <;> omega
  refine ⟨by omega, fun d => ⟨by omega, fun d2 => ⟨by omega, sp115 ⟨_, rfl, ?_⟩⟩, fun d2 => ⟨by omega, sp115 ⟨_, rfl, ?_⟩⟩⟩, fun d => sp98 ⟨_, rfl, ?_⟩⟩
  · rw [if_neg d, if_neg d2] at q
    rw [Int.tmod_eq_emod_of_nonneg (by omega)]
    exact q _ _ ((iq_KK.refl _ _).uz iq_sx771) (by simp [iq_uz]) (by simp [iq_uz])
  · rw [if_neg d, if_pos d2] at q
    rw [Int.tdiv_eq_ediv_of_nonneg (by omega)]
    exact q _ _ ((iq_KK.refl _ _).uz iq_sx771) (by simp [iq_uz]) (by simp [iq_uz])
  · rw [if_pos d] at q
    exact q _ _ ((iq_KK.refl _ _).uz iq_sx771) (by simp [iq_uz]) (by simp [iq_uz])
/-! tones of keys -/
def iq_kx (P : Int → Int) (t : Int) : Bool := decide (¬ iq_ko P t 18 0 = -1)
theorem iq_kxi {P : Int → Int} {t : Int} : iq_kx P t = true ↔ ∃ x y, 0 ≤ x ∧ x < 12 ∧ 0 ≤ y ∧ y < 6 ∧ iq_kt P x y = t := by
  unfold iq_kx
  rw [decide_eq_true_eq]
  constructor
  · intro h
    rcases iq_koR (P := P) (t := t) 18 0 (by omega) with h1 | ⟨x, y, a, b, c, d, e, f⟩
    · exact (h h1).elim
    · exact ⟨x, y, a, b, c, d, f⟩
  · rintro ⟨x, y, a, b, c, d, f⟩ h
    exact iq_koN 18 0 (by omega) (by omega) h x y a b c d (by omega) f
def aKeyTones (P : Int → Int) : Int := iq_cn (iq_kx P) (P 1).toNat
theorem iq_tb1 {z : Int} (h1 : 0 ≤ z) (h2 : z < 64) (t : Int) : iq_tb (iq_lsl 1 z) t = decide (t = z) := iq_tb_of h1 h2 t
theorem sp254i {N : Nat} {xs : Nat → Int32} {Q : iq_T} {g : iq_I} {l : iq_J} (hs : iq_SR g l 23 24 25 0) {y : Int} (hy : 0 ≤ y ∧ y < 6) (q : ∀ w d4, (∀ t, iq_tb w t = true ↔ ∃ a b, 0 ≤ a ∧ a < 12 ∧ 0 ≤ b ∧ b < y + 1 ∧ iq_kt (g 24) a b = t) → iq_P N xs 254 4 [some (iq_r 0), some (iq_l w), none, some (iq_i (y + 1)), d4] [] g l Q) (n : Nat) : ∀ (x : Int) (w : Int64), 0 ≤ x → x + n = 12 → (∀ t, iq_tb w t = true ↔ ∃ a b, 0 ≤ a ∧ a < 12 ∧ 0 ≤ b ∧ (b < y ∨ (b = y ∧ a < x)) ∧ iq_kt (g 24) a b = t) → iq_P N xs 254 13 [some (iq_r 0), some (iq_l w), none, some (iq_i y), some (iq_i x)] [] g l Q := by
  have hp1 := hs.1.2.1
  induction n with
  | zero =>
    intro x w h1 h2 hw
    refine B254_p13_0 _ _ _ _ _ ⟨by omega, fun h => q w _ (fun t => ?_), fun h => by omega⟩
    rw [hw t]
    constructor
    · rintro ⟨a, b, c1, c2, c3, c4, c5⟩; exact ⟨a, b, c1, c2, c3, by omega, c5⟩
    · rintro ⟨a, b, c1, c2, c3, c4, c5⟩; exact ⟨a, b, c1, c2, c3, by omega, c5⟩
  | succ n ih =>
    intro x w h1 h2 hw
    have hr := iq_ktR hs.1 x y
    refine B254_p13_0 _ _ _ _ _ ⟨by omega, fun h => by omega, fun h => sp245k hs (by omega) (by omega) ⟨_, rfl, ih (x + 1) _ (by omega) (by omega) (fun t => ?_)⟩⟩
    rw [iq_tb_or, Bool.or_eq_true, hw t, iq_tb1 hr.1 (by omega), decide_eq_true_eq]
    constructor
    · rintro (⟨a, b, c1, c2, c3, c4, c5⟩ | e)
      · exact ⟨a, b, c1, c2, c3, by omega, c5⟩
      · exact ⟨x, y, h1, by omega, by omega, by omega, e.symm⟩
    · rintro ⟨a, b, c1, c2, c3, c4, c5⟩
      by_cases e : b = y ∧ a = x
      · right; rw [← c5, e.1, e.2]
      · left; exact ⟨a, b, c1, c2, c3, by omega, c5⟩
theorem sp254o {N : Nat} {xs : Nat → Int32} {Q : iq_T} {g : iq_I} {l : iq_J} (hs : iq_SR g l 23 24 25 0) (q : ∀ w, (∀ t, iq_tb w t = true ↔ ∃ a b, 0 ≤ a ∧ a < 12 ∧ 0 ≤ b ∧ b < 6 ∧ iq_kt (g 24) a b = t) → Q (some (iq_i (iq_cn (iq_tb w) 64))) (iq_uz g 0 0 0) l) (n : Nat) : ∀ (y : Int) (w : Int64) (d4 : Option iq_V), 0 ≤ y → y + n = 6 → (∀ t, iq_tb w t = true ↔ ∃ a b, 0 ≤ a ∧ a < 12 ∧ 0 ≤ b ∧ b < y ∧ iq_kt (g 24) a b = t) → iq_P N xs 254 4 [some (iq_r 0), some (iq_l w), none, some (iq_i y), d4] [] g l Q := by
  induction n with
  | zero =>
    intro y w d4 h1 h2 hw
    rw [show y = 6 by omega] at hw ⊢
    exact B254_p4_0 _ _ _ _ _ ⟨by omega, fun h => sp88 ⟨_, rfl, sp90 ⟨_, rfl, q w hw⟩⟩, fun h => by omega⟩
  | succ n ih =>
    intro y w d4 h1 h2 hw
    refine B254_p4_0 _ _ _ _ _ ⟨by omega, fun h => by omega, fun h => sp254i hs (by omega) (fun w d4 hw => ih (y + 1) w d4 (by omega) (by omega) hw) 12 0 w (by omega) (by omega) (fun t => ?_)⟩
    rw [hw t]
    constructor
    · rintro ⟨a, b, c1, c2, c3, c4, c5⟩; exact ⟨a, b, c1, c2, c3, by omega, c5⟩
    · rintro ⟨a, b, c1, c2, c3, c4, c5⟩; exact ⟨a, b, c1, c2, c3, by omega, c5⟩
theorem iq_beq {a b : Bool} (h : a = true ↔ b = true) : a = b := by
  cases a <;> cases b <;> simp at h ⊢
theorem cKeyTones {N : Nat} {xs : Nat → Int32} {Q : iq_T} {g : iq_I} {l : iq_J} (hs : iq_SR g l 23 24 25 0) (q : ∀ (g' : iq_I) (l' : iq_J), iq_KK g l g' l' → g' 0 0 = 0 → Q (some (iq_i (aKeyTones (g 24)))) g' l') : iq_P N xs 254 0 [some (iq_r 0), none, none, none, none] [] g l Q := by
  have hp1 := hs.1.2.1
  refine B254_0 _ _ (sp254o hs (fun w hw => ?_) 6 0 0 none (by omega) (by omega) (fun t => ?_))
  · have e : ∀ t, iq_tb w t = iq_kx (g 24) t := fun t => iq_beq (by rw [hw t, iq_kxi])
    have e2 : iq_cn (iq_tb w) 64 = aKeyTones (g 24) := by
      rw [iq_cn_congr (h := iq_kx (g 24)) (fun i _ _ => e i)]
      refine iq_cn_ext (by omega) (fun i a b => ?_)
      rcases hb : iq_kx (g 24) i with _ | _
      · rfl
      · obtain ⟨x, y, -, -, -, -, f⟩ := iq_kxi.mp hb
        have := iq_ktR hs.1 x y
        omega
    rw [e2]
    exact q _ _ ((iq_KK.refl _ _).uz iq_sx00) (by simp [iq_uz])
  · rw [iq_tb_0]
    constructor
    · intro h; cases h
    · rintro ⟨a, b, c1, c2, c3, c4, c5⟩; omega
theorem sp255_p {N : Nat} {xs : Nat → Int32} {Q : iq_T} {g : iq_I} {l : iq_J} (hs : iq_SR g l 23 24 25 0) (q : Q (some (iq_i (aKeyTones (g 24)))) (iq_uz g 77 1 0) l) (n : Nat) : ∀ t : Nat, (t : Int) + n = g 24 1 → iq_P N xs 255 4 [some (iq_r 77), some (iq_i (iq_cn (iq_kx (g 24)) t)), some (iq_i t)] [] g l Q := by
  have hp1 := hs.1.2.1
  have e1 := hs.p78 1 (by omega) (by omega)
  induction n with
  | zero =>
    intro t h
    unfold aKeyTones at q
    rw [show (g 24 1).toNat = t by omega] at q
    exact B255_p4_77 _ _ _ _ ⟨by omega, fun h => sp115 ⟨_, rfl, q⟩, fun h => by omega⟩
  | succ n ih =>
    intro t h
    have := ih (t + 1) (by omega)
    rw [iq_cn] at this
    have hkR : -1 ≤ iq_ko (g 24) t 18 0 ∧ iq_ko (g 24) t 18 0 < 72 := by
      rcases iq_koR (P := g 24) (t := t) 18 0 (by omega) with h | ⟨x, y, h1, h2, h3, h4, h5, -⟩ <;> omega
    refine B255_p4_77 _ _ _ _ ⟨by omega, fun h => by omega, fun h => sp252 hs (by omega) ⟨_, rfl, by omega, fun c => ?_, fun c => ?_⟩⟩
    · rw [if_pos (show iq_kx (g 24) t = true from decide_eq_true c)] at this
      exact this
    · rw [if_neg (show ¬ iq_kx (g 24) t = true from fun h => by rw [iq_kx, decide_eq_true_eq] at h; exact h c)] at this
      exact this
theorem mKeyTones {N : Nat} {xs : Nat → Int32} {Q : iq_T} {g : iq_I} {l : iq_J} (hs : iq_SR g l 23 24 25 0) (q : ∀ (g' : iq_I) (l' : iq_J), iq_KK g l g' l' → g' 0 0 = g 0 0 → g' 77 1 = 0 → Q (some (iq_i (aKeyTones (g 24)))) g' l') : iq_P N xs 255 0 [some (iq_r 77), none, none] [] g l Q := by
  have hp1 := hs.1.2.1
  exact B255_77 _ _ (sp255_p hs (q _ _ ((iq_KK.refl _ _).uz iq_sx771) (by simp [iq_uz]) (by simp [iq_uz])) (g 24 1).toNat 0 (by omega))
