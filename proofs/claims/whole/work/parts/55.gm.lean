/-! Guesses in the model; ask. -/
theorem sf_or01 (a b : Bool) : iq_or (if a = true then 1 else 0) (if b = true then 1 else 0) = if (a || b) = true then 1 else 0 := by
  cases a <;> cases b <;> decide
theorem iq_sx95 {k : Int} : iq_sx 95 k = true := by simp [iq_sx]
theorem iq_sx96 {k : Int} : iq_sx 96 k = true := by simp [iq_sx]
theorem sp265_t {N : Nat} {xs : Nat → Int32} {Q : iq_T} {l : iq_J} {g0 : iq_I} {v1 v2 v3 v4 : Int} (h3 : 0 ≤ v3 ∧ v3 < 60) {U D : Int → Bool} (hU : ∀ t, 0 ≤ t → t < 60 → g0 96 (60 * v3 + t) = if U t = true then 1 else 0) (hD : ∀ t, 0 ≤ t → t < 60 → g0 89 t = if D t = true then 1 else 0) (q : ∀ g' : iq_I, (∀ j, ¬ j = 96 → g' j = g0 j) → (∀ e, ¬ (60 * v3 ≤ e ∧ e < 60 * v3 + 60) → g' 96 e = g0 96 e) → (∀ t, 0 ≤ t → t < 60 → g' 96 (60 * v3 + t) = if (U t || D t) = true then 1 else 0) → iq_P N xs 265 51 [some (iq_r 77), some (iq_i v1), some (iq_i v2), some (iq_i v3), some (iq_i (v4 + 1)), some (iq_i 60)] [] g' l Q) (n : Nat) : ∀ (k : Nat) (g : iq_I), k + n = 60 → (∀ j, ¬ j = 96 → g j = g0 j) → (∀ e, ¬ (60 * v3 ≤ e ∧ e < 60 * v3 + k) → g 96 e = g0 96 e) → (∀ t : Int, 0 ≤ t → t < k → g 96 (60 * v3 + t) = if (U t || D t) = true then 1 else 0) → iq_P N xs 265 90 [some (iq_r 77), some (iq_i v1), some (iq_i v2), some (iq_i v3), some (iq_i v4), some (iq_i k)] [] g l Q := by
  induction n with
  | zero =>
    intro k g h a b c
    rw [show k = 60 by omega] at b c ⊢
    exact B265_p90_77 _ _ _ _ _ _ _ ⟨by omega, fun _ => q g a b c, fun h => by omega⟩
  | succ n ih =>
    intro k g h a b c
    have e1 : iq_or (g 96 (60 * v3 + k)) (g 89 k) = if (U k || D k) = true then 1 else 0 := by
      rw [b (60 * v3 + k) (by omega), hU k (by omega) (by omega), a 89 (by decide), hD k (by omega) (by omega), sf_or01]
    refine B265_p90_77 _ _ _ _ _ _ _ ⟨by omega, fun h => by omega, fun _ => ⟨by omega, by omega, by omega, ?_, ?_⟩⟩
    · rw [e1]; split <;> simp
    · refine ih (k + 1) _ (by omega) (fun j hj => ?_) (fun e he => ?_) (fun t ht1 ht2 => ?_)
      · rw [← a j hj]; funext i; simp [iq_uz, hj]
      · rw [← b e (by omega)]
        have : ¬ e = 60 * v3 + k := by omega
        simp [iq_uz, this]
      · by_cases e : t = k
        · rw [e, ← e1]; simp [iq_uz]
        · rw [← c t ht1 (by omega)]
          have : ¬ 60 * v3 + t = 60 * v3 + k := by omega
          simp [iq_uz, this]
          try omega
/-- how many roots are done -/
def sf_un (P : Int → Int) (G : Int) (r : Nat) (G' : Int) : Nat := if G' < G then (P 1).toNat else if G' = G then r else 0
theorem sf_unl {P : Int → Int} {G G' : Int} {r : Nat} (h : G' < G) : sf_un P G r G' = (P 1).toNat := if_pos h
theorem sf_une {P : Int → Int} {G : Int} {r : Nat} : sf_un P G r G = r := by unfold sf_un; rw [if_neg (by omega), if_pos rfl]
theorem sf_ung {P : Int → Int} {G G' : Int} {r : Nat} (h : G < G') : sf_un P G r G' = 0 := by unfold sf_un; rw [if_neg (by omega), if_neg (by omega)]
/-- the model's guesses up to generator G, root r -/
def sf_GM (P : Int → Int) (S : Int64) (g : iq_I) (G : Int) (r : Nat) : Prop := (∀ G', 0 ≤ G' → G' < G → g 95 G' = if sf_gs P S G' = true then 1 else 0) ∧ (∀ G' t, 0 ≤ G' → G' < 60 → 0 ≤ t → t < 60 → g 96 (60 * G' + t) = if sf_U P S G' (sf_un P G r G') t = true then 1 else 0)
theorem sp265_r {N : Nat} {xs : Nat → Int32} {Q : iq_T} {g : iq_I} {l : iq_J} (hs : iq_SR g l 23 24 25 0) {v1 : Int} {G : Nat} (hG : (G : Int) < g 24 1) (q : ∀ (g1 : iq_I) (d4 d5 : Option iq_V), iq_KK g l g1 l → g1 0 0 = g 0 0 → sf_GM (g 24) (l 23 3) g1 ((G + 1 : Nat) : Int) 0 → iq_P N xs 265 31 [some (iq_r 77), some (iq_i (v1 + (if sf_gs (g 24) (l 23 3) G = true then 1 else 0))), some (iq_i (iq_cn (iq_tb (l 23 3)) 64)), some (iq_i ((G : Int) + 1)), d4, d5] [] g1 l Q) (n : Nat) : ∀ (r : Nat) (g1 : iq_I) (d5 : Option iq_V), (r : Int) + n = g 24 1 → iq_KK g l g1 l → g1 0 0 = g 0 0 → g1 95 G = (if sf_ex (sf_hit (g 24) (l 23 3) G) r = true then 1 else 0) → sf_GM (g 24) (l 23 3) g1 G r → iq_P N xs 265 51 [some (iq_r 77), some (iq_i v1), some (iq_i (iq_cn (iq_tb (l 23 3)) 64)), some (iq_i G), some (iq_i r), d5] [] g1 l Q := by
  have hp1 := hs.1.2.1
  have hc := iq_cn_nonneg (iq_tb (l 23 3)) 64
  induction n with
  | zero =>
    intro r g1 d5 h k0 k1 h95 hM
    have e1 : g1 78 1 = g 24 1 := by rw [(hs.keep k0).p78 1 (by omega) (by omega), k0.p24]
    have eg : sf_gs (g 24) (l 23 3) G = sf_ex (sf_hit (g 24) (l 23 3) G) r := by
      unfold sf_gs
      rw [show (g 24 1).toNat = r by omega]
    have hM' : sf_GM (g 24) (l 23 3) g1 ((G + 1 : Nat) : Int) 0 := by
      obtain ⟨m1, m2⟩ := hM
      refine ⟨fun G' a b => ?_, fun G' t a b c d => ?_⟩
      · by_cases e : G' = G
        · rw [e, h95, eg]
        · exact m1 G' a (by omega)
      · rw [m2 G' t a b c d]
        by_cases e : G' = G
        · rw [e, sf_une, sf_unl (by omega), show (g 24 1).toNat = r by omega]
        · by_cases e2 : G' < G
          · rw [sf_unl e2, sf_unl (by omega)]
          · rw [sf_ung (by omega)]
            by_cases e3 : G' = ((G + 1 : Nat) : Int)
            · rw [e3, sf_une]
            · rw [sf_ung (by omega)]
    rw [eg] at q
    refine B265_p51_77 _ _ _ _ _ _ _ ⟨by omega, fun _ => ⟨by omega, ?_⟩, fun h => by omega⟩
    rw [h95]
    rcases hb : sf_ex (sf_hit (g 24) (l 23 3) G) r with _ | _
    · rw [hb] at q
      exact ⟨by decide, fun _ => q g1 _ _ k0 k1 hM', fun h => by simp at h⟩
    · rw [hb] at q
      exact ⟨by decide, fun h => by simp at h, fun _ => q g1 _ _ k0 k1 hM'⟩
  | succ n ih =>
    intro r g1 d5 h k0 k1 h95 hM
    have hs1 := hs.keep k0
    have e24 := k0.p24
    have e1 : g1 78 1 = g 24 1 := by rw [hs1.p78 1 (by omega) (by omega), e24]
    refine B265_p51_77 _ _ _ _ _ _ _ ⟨by omega, fun h => by omega, fun _ => sp192 hs1 (by omega) (by rw [e24]; omega) (fun g2 a b => ⟨rfl, ?_⟩)⟩
    rw [e24] at b
    have kk := k0.trans (iq_KKc (l := l) a)
    have kz : g2 0 0 = g 0 0 := (congrFun (a 0 (by decide)) 0).trans k1
    have hF := sf_fitR (g 24) (l 23 3) G r
    have hM2 : sf_GM (g 24) (l 23 3) g2 G r := by
      unfold sf_GM
      rw [a 95 (by decide), a 96 (by decide)]
      exact hM
    refine sp193 hs.1 b (hs.keep kk).snd ⟨_, rfl, by omega, fun c => ⟨by omega, ?_⟩, fun c => ?_⟩
    · have hh : sf_hit (g 24) (l 23 3) G r = true := decide_eq_true c
      have hU : ∀ t, 0 ≤ t → t < 60 → (iq_uz g2 95 G 1) 96 (60 * (G : Int) + t) = if sf_U (g 24) (l 23 3) G r t = true then 1 else 0 := by
        intro t x y
        have := hM2.2 G t (by omega) (by omega) x y
        rw [sf_une] at this
        rw [← this]; simp [iq_uz]
      refine sp265_t (g0 := iq_uz g2 95 G 1) (by omega) hU (fun t x y => by rw [← b t x y]; simp [iq_uz]) (fun g3 c1 c2 c3 => ?_) 60 0 _ (by omega) (fun _ _ => rfl) (fun _ _ => rfl) (fun t x y => by omega)
      have k3 : iq_KK g l g3 l := kk.trans (.ofg (fun j k hb => by
        have h96 : ¬ j = 96 := fun e => by rw [e, iq_sx96] at hb; cases hb
        have h95' : ¬ j = 95 := fun e => by rw [e, iq_sx95] at hb; cases hb
        rw [c1 j h96]; simp [iq_uz, h95']))
      refine ih (r + 1) g3 _ (by omega) k3 ?_ ?_ ⟨fun G' x y => ?_, fun G' t x y z w => ?_⟩
      · rw [c1 0 (by decide), ← kz]; simp [iq_uz]
      · rw [c1 95 (by decide), sf_ex, hh]; simp [iq_uz]
      · rw [c1 95 (by decide), ← hM2.1 G' x y]
        have : ¬ G' = G := by omega
        simp [iq_uz, this]
      · by_cases e : G' = G
        · rw [e, c3 t z w, sf_une]
          unfold sf_U
          rw [sf_ex, hh, Bool.true_and]
        · rw [c2 _ (by omega), show (iq_uz g2 95 (G : Int) 1) 96 (60 * G' + t) = g2 96 (60 * G' + t) by simp [iq_uz], hM2.2 G' t x y z w]
          by_cases e2 : G' < G
          · rw [sf_unl e2, sf_unl e2]
          · rw [sf_ung (by omega), sf_ung (by omega)]
    · have hh : sf_hit (g 24) (l 23 3) G r = false := decide_eq_false (by omega)
      refine ih (r + 1) g2 _ (by omega) kk kz ?_ ⟨hM2.1, fun G' t x y z w => ?_⟩
      · rw [a 95 (by decide), h95, sf_ex, hh, Bool.or_false]
      · rw [hM2.2 G' t x y z w]
        by_cases e2 : G' < G
        · rw [sf_unl e2, sf_unl e2]
        · by_cases e : G' = G
          · rw [e, sf_une, sf_une]
            unfold sf_U
            rw [sf_ex, hh, Bool.false_and, Bool.or_false]
          · rw [sf_ung (by omega), sf_ung (by omega)]
theorem sp265_g {N : Nat} {xs : Nat → Int32} {Q : iq_T} {g : iq_I} {l : iq_J} (hs : iq_SR g l 23 24 25 0) (q : ∀ (g1 : iq_I), iq_KK g l g1 l → g1 0 0 = g 0 0 → sf_GM (g 24) (l 23 3) g1 (g 24 1) 0 → Q (some (iq_i (aGuesses (g 24) (l 23 3)))) g1 l) (n : Nat) : ∀ (G : Nat) (g1 : iq_I) (d4 d5 : Option iq_V), (G : Int) + n = g 24 1 → iq_KK g l g1 l → g1 0 0 = g 0 0 → sf_GM (g 24) (l 23 3) g1 G 0 → iq_P N xs 265 31 [some (iq_r 77), some (iq_i (iq_cn (sf_fu (g 24) (l 23 3)) G)), some (iq_i (iq_cn (iq_tb (l 23 3)) 64)), some (iq_i G), d4, d5] [] g1 l Q := by
  have hp1 := hs.1.2.1
  induction n with
  | zero =>
    intro G g1 d4 d5 h k0 k1 hM
    have e1 : g1 78 1 = g 24 1 := by rw [(hs.keep k0).p78 1 (by omega) (by omega), k0.p24]
    unfold aGuesses at q
    rw [show (g 24 1).toNat = G by omega, show g 24 1 = G by omega] at q
    exact B265_p31_77 _ _ _ _ _ _ _ ⟨by omega, fun _ => q g1 k0 k1 hM, fun h => by omega⟩
  | succ n ih =>
    intro G g1 d4 d5 h k0 k1 hM
    have e1 : g1 78 1 = g 24 1 := by rw [(hs.keep k0).p78 1 (by omega) (by omega), k0.p24]
    have hfu : sf_fu (g 24) (l 23 3) G = sf_gs (g 24) (l 23 3) G := by
      unfold sf_fu
      rw [decide_eq_true (show (0 : Int) ≤ (G : Int) by omega), decide_eq_true (show (G : Int) < g 24 1 by omega)]
      simp
    refine B265_p31_77 _ _ _ _ _ _ _ ⟨by omega, fun h => by omega, fun _ => ⟨by omega, ?_⟩⟩
    refine sp265_r hs (by omega) (fun g2 d4 d5 m0 m1 m2 => ?_) (g 24 1).toNat 0 _ _ (by omega) (k0.uz iq_sx95) (by simp [iq_uz, k1]) (by simp [iq_uz, sf_ex]) ⟨fun G' x y => ?_, fun G' t x y z w => ?_⟩
    · have := ih (G + 1) g2 d4 d5 (by omega) m0 m1 m2
      rw [iq_cn, hfu] at this
      exact this
    · rw [← hM.1 G' x y]
      have : ¬ G' = G := by omega
      simp [iq_uz, this]
    · rw [← hM.2 G' t x y z w]; simp [iq_uz]
theorem sp265_c {N : Nat} {xs : Nat → Int32} {Q : iq_T} {g : iq_I} {l : iq_J} {v1 v2 : Int} (q : ∀ (g1 : iq_I), iq_KK g l g1 l → g1 0 0 = g 0 0 → (∀ e, 0 ≤ e → e < 3600 → g1 96 e = 0) → iq_P N xs 265 31 [some (iq_r 77), some (iq_i v1), some (iq_i v2), some (iq_i 0), none, none] [] g1 l Q) (n : Nat) : ∀ (k : Nat) (g1 : iq_I), k + n = 3600 → iq_KK g l g1 l → g1 0 0 = g 0 0 → (∀ e : Int, 0 ≤ e → e < k → g1 96 e = 0) → iq_P N xs 265 9 [some (iq_r 77), some (iq_i v1), some (iq_i v2), some (iq_i k), none, none] [] g1 l Q := by
  induction n with
  | zero =>
    intro k g1 h k0 k1 hz
    exact B265_p9_77 _ _ _ _ _ ⟨by omega, fun _ => q g1 k0 k1 (fun e a b => hz e a (by omega)), fun h => by omega⟩
  | succ n ih =>
    intro k g1 h k0 k1 hz
    refine B265_p9_77 _ _ _ _ _ ⟨by omega, fun h => by omega, fun _ => ⟨by omega, ih (k + 1) _ (by omega) (k0.uz iq_sx96) (by simp [iq_uz, k1]) (fun e a b => ?_)⟩⟩
    by_cases c : e = k
    · rw [c]; simp [iq_uz]
    · rw [← hz e a (by omega)]; simp [iq_uz, c]
theorem sp265 {N : Nat} {xs : Nat → Int32} {Q : iq_T} {g : iq_I} {l : iq_J} (hs : iq_SR g l 23 24 25 0) (q : ∀ (g1 : iq_I), iq_KK g l g1 l → g1 0 0 = g 0 0 → sf_GM (g 24) (l 23 3) g1 (g 24 1) 0 → Q (some (iq_i (aGuesses (g 24) (l 23 3)))) g1 l) : iq_P N xs 265 0 [some (iq_r 77), none, none, none, none, none] [] g l Q := by
  have hp1 := hs.1.2.1
  refine B265_77 _ _ (sp144 hs ⟨_, rfl, sp265_c (g := g) (fun g1 k0 k1 hz => ?_) 3600 0 g (by omega) (.refl g l) rfl (fun e a b => by omega)⟩)
  refine sp265_g hs q (g 24 1).toNat 0 g1 none none (by omega) k0 k1 ⟨fun G' x y => by omega, fun G' t x y z w => ?_⟩
  rw [hz _ (by omega) (by omega)]
  by_cases e : G' = 0
  · rw [e]; rfl
  · rw [sf_ung (by omega)]; rfl
theorem mGuesses {N : Nat} {xs : Nat → Int32} {Q : iq_T} {g : iq_I} {l : iq_J} (hs : iq_SR g l 23 24 25 0) (q : ∀ (g' : iq_I) (l' : iq_J), iq_KK g l g' l' → g' 0 0 = g 0 0 → g' 77 1 = 0 → Q (some (iq_i (aGuesses (g 24) (l 23 3)))) g' l') : iq_P N xs 266 0 [some (iq_r 77)] [] g l Q :=
  B266_77 _ _ (sp265 hs (fun g1 k0 k1 _ => ⟨_, rfl, sp115 ⟨_, rfl, q _ _ (k0.uz iq_sx771) (by simp [iq_uz, k1]) (by simp [iq_uz])⟩⟩))
theorem sp268_p {N : Nat} {xs : Nat → Int32} {Q : iq_T} {g : iq_I} {l : iq_J} {P : Int → Int} {S : Int64} {k : Int} (hp : iq_pb P) (h1 : g 78 1 = P 1) (hM : ∀ G, 0 ≤ G → G < P 1 → g 95 G = if sf_gs P S G = true then 1 else 0) (hk : -2147483648 ≤ k ∧ k ≤ 2147483647) (q : Q (some (iq_i (aGuessAt P S k).1)) (iq_uz g 77 1 (aGuessAt P S k).2) l) (n : Nat) : ∀ (G : Nat), (G : Int) + n = P 1 → ¬ (0 ≤ k ∧ k < iq_cn (sf_fu P S) G) → iq_P N xs 268 9 [some (iq_r 77), some (iq_i k), some (iq_i (iq_cn (sf_fu P S) G)), some (iq_i G)] [] g l Q := by
  have hp1 := hp.2.1
  have hgn := aGuessesR hp S
  induction n with
  | zero =>
    intro G h hc
    unfold aGuessAt at q
    have e : aGuesses P S = iq_cn (sf_fu P S) G := by unfold aGuesses; rw [show (P 1).toNat = G by omega]
    rw [if_neg (by rw [e]; exact hc)] at q
    exact B268_p9_77 _ _ _ _ _ ⟨by omega, fun _ => sp98 ⟨_, rfl, q⟩, fun h => by omega⟩
  | succ n ih =>
    intro G h hc
    have nx := ih (G + 1) (by omega)
    have hc0 := iq_cn_nonneg (sf_fu P S) G
    have hfu : sf_fu P S G = sf_gs P S G := by
      unfold sf_fu
      rw [decide_eq_true (show (0 : Int) ≤ (G : Int) by omega), decide_eq_true (show (G : Int) < P 1 by omega)]
      simp
    rw [iq_cn, hfu] at nx
    refine B268_p9_77 _ _ _ _ _ ⟨by omega, fun h => by omega, fun _ => ⟨by omega, ?_⟩⟩
    rw [hM G (by omega) (by omega)]
    rcases hb : sf_gs P S G with _ | _
    · rw [hb] at nx
      simp at nx
      exact ⟨by decide, fun h => by simp at h, fun _ => nx (by omega)⟩
    · rw [hb] at nx
      simp at nx
      refine ⟨by decide, fun _ => ⟨by omega, fun e => nx (by omega), fun e => ?_⟩, fun h => by simp at h⟩
      have lt := iq_cn_lt (f := sf_fu P S) (show G < (P 1).toNat by omega) (hfu.trans hb)
      have en : iq_nth (sf_fu P S) 64 0 k = G := iq_nth_shift (sf_fu P S) 64 0 k G (by omega) (by omega) (hfu.trans hb) (show iq_cn (sf_fu P S) G - (0 : Int) = k by omega)
      unfold aGuessAt at q
      rw [if_pos ⟨by omega, by unfold aGuesses; omega⟩, en] at q
      exact sp115 ⟨_, rfl, q⟩
theorem mGuessAt {N : Nat} {xs : Nat → Int32} {Q : iq_T} {g : iq_I} {l : iq_J} {k : Int} (hs : iq_SR g l 23 24 25 0) (hk : -2147483648 ≤ k ∧ k ≤ 2147483647) (q : ∀ (g' : iq_I) (l' : iq_J), iq_KK g l g' l' → g' 0 0 = g 0 0 → g' 77 1 = (aGuessAt (g 24) (l 23 3) k).2 → Q (some (iq_i (aGuessAt (g 24) (l 23 3) k).1)) g' l') : iq_P N xs 268 0 [some (iq_r 77), some (iq_i k), none, none] [] g l Q := by
  have hp1 := hs.1.2.1
  refine B268_77 _ _ _ (sp265 hs (fun g1 k0 k1 hM => ⟨_, rfl, ?_⟩))
  refine sp268_p hs.1 (by rw [(hs.keep k0).p78 1 (by omega) (by omega), k0.p24]) hM.1 hk (q _ _ (k0.uz iq_sx771) (by simp [iq_uz, k1]) (by simp [iq_uz])) (g 24 1).toNat 0 (by omega) (by rw [iq_cn]; omega)
/-! ask -/
def sf_ca (P : Int → Int) (S : Int64) (t : Int) : Int := iq_cn (fun G => sf_U P S G (P 1).toNat t) (P 1).toNat
def sf_wa (P : Int → Int) (S : Int64) (t : Int) : Int := if sf_ca P S t < aGuesses P S - sf_ca P S t then aGuesses P S - sf_ca P S t else sf_ca P S t
def sf_aq (P : Int → Int) (S : Int64) : Nat → Int × Int
  | 0 => (-1, aGuesses P S + 1)
  | n + 1 => if iq_tb S n = true then sf_aq P S n else if sf_wa P S n < (sf_aq P S n).2 then ((n : Int), sf_wa P S n) else sf_aq P S n
def aAsk (P : Int → Int) (S : Int64) : Int × Int := if aGuesses P S ≤ 1 ∨ (sf_aq P S (P 1).toNat).1 = -1 then (-1, 6) else ((sf_aq P S (P 1).toNat).1, 0)
theorem sf_caR {P : Int → Int} (hp : iq_pb P) (S : Int64) (t : Int) : 0 ≤ sf_ca P S t ∧ sf_ca P S t ≤ aGuesses P S := by
  have h0 := iq_cn_nonneg (fun G => sf_U P S G (P 1).toNat t) (P 1).toNat
  refine ⟨h0.1, ?_⟩
  unfold sf_ca aGuesses
  have h := (sf_cnsub (D := fun G => sf_U P S G (P 1).toNat t) (f := sf_fu P S) (P 1).toNat).1
  rw [iq_cn_congr (f := fun G => sf_U P S G (P 1).toNat t) (h := fun G => sf_U P S G (P 1).toNat t && sf_fu P S G) (fun G a b => ?_)]
  · exact h
  · have hp1 := hp.2.1
    rcases hb : sf_U P S G (P 1).toNat t with _ | _
    · rfl
    · obtain ⟨r, x, y, z⟩ := (sf_exi _ _).mp hb
      rw [Bool.and_eq_true] at z
      have : sf_gs P S G = true := (sf_exi _ _).mpr ⟨r, x, y, z.1⟩
      unfold sf_fu
      rw [decide_eq_true (show (0 : Int) ≤ G by omega), decide_eq_true (show G < P 1 by omega), this]
      rfl
theorem sf_waR {P : Int → Int} (hp : iq_pb P) (S : Int64) (t : Int) : 0 ≤ sf_wa P S t ∧ sf_wa P S t ≤ aGuesses P S := by
  have h := sf_caR hp S t
  unfold sf_wa
  split <;> omega
theorem sf_aqR {P : Int → Int} (hp : iq_pb P) (S : Int64) (n : Nat) : (-1 ≤ (sf_aq P S n).1 ∧ (sf_aq P S n).1 < n) ∧ (0 ≤ (sf_aq P S n).2 ∧ (sf_aq P S n).2 ≤ aGuesses P S + 1) ∧ ((sf_aq P S n).1 = -1 → (sf_aq P S n).2 = aGuesses P S + 1) := by
  have hR := aGuessesR hp S
  induction n with
  | zero => rw [sf_aq]; dsimp only; omega
  | succ n ih =>
    have hw := sf_waR hp S n
    rw [sf_aq]
    split
    · omega
    · split
      · dsimp only; omega
      · omega
theorem sp269_p {N : Nat} {xs : Nat → Int32} {Q : iq_T} {g : iq_I} {l : iq_J} {f : Int → Bool} {t p : Int} (hp : 0 ≤ p ∧ p ≤ 60) (ht : 0 ≤ t ∧ t < 60) (hf : ∀ G, 0 ≤ G → G < p → iq_tb (l 34 G) t = f G) (q : Q (some (iq_i (iq_cn f p.toNat))) g l) (n : Nat) : ∀ G : Nat, (G : Int) + n = p → iq_P N xs 269 5 [some (iq_r 33), some (iq_i t), some (iq_i p), some (iq_i (iq_cn f G)), some (iq_i G)] [] g l Q := by
  induction n with
  | zero =>
    intro G h
    rw [show p.toNat = G by omega] at q
    exact B269_p5_33 _ _ _ _ _ _ ⟨by omega, fun _ => q, fun h => by omega⟩
  | succ n ih =>
    intro G h
    have nx := ih (G + 1) (by omega)
    rw [iq_cn] at nx
    refine B269_p5_33 _ _ _ _ _ _ ⟨by omega, fun h => by omega, fun _ => ⟨by omega, fun h => by omega, fun _ => ⟨by omega, sp74 (by omega) (fun c => ⟨_, rfl, by omega, fun h => by omega, fun _ => ?_⟩) (fun c => ⟨_, rfl, by omega, fun _ => ?_, fun h => by omega⟩)⟩⟩⟩
    · rw [hf G (by omega) (by omega)] at c
      rw [if_pos c] at nx
      exact nx
    · rw [hf G (by omega) (by omega)] at c
      rw [if_neg (by rw [c]; decide)] at nx
      exact nx
theorem sp271_p {N : Nat} {xs : Nat → Int32} {Q : iq_T} {g : iq_I} {l : iq_J} {S : Int64} {P : Int → Int} (hp : iq_pb P) (h24 : g 24 1 = P 1) (h23 : l 23 3 = S) (hG : sf_GL P S l (P 1)) (h1 : 1 < aGuesses P S) (q : Q (some (iq_i (sf_aq P S (P 1).toNat).1)) g l) (n : Nat) : ∀ (t : Nat) (d6 d7 : Option iq_V), (t : Int) + n = P 1 → iq_P N xs 271 18 [some (iq_r 33), some (iq_r 23), some (iq_i (aGuesses P S)), some (iq_i (sf_aq P S t).1), some (iq_i (sf_aq P S t).2), some (iq_i t), d6, d7] [] g l Q := by
  have hp1 := hp.2.1
  have hR := aGuessesR hp S
  induction n with
  | zero =>
    intro t d6 d7 h
    rw [show (P 1).toNat = t by omega] at q
    exact B271_p18_33_23 _ _ _ _ _ _ _ _ (B80_23 _ _ ⟨_, rfl, by omega, fun _ => q, fun h => by omega⟩)
  | succ n ih =>
    intro t d6 d7 h
    have nx := fun d6 d7 => ih (t + 1) d6 d7 (by omega)
    rw [sf_aq] at nx
    have hw := sf_waR hp S t
    have hc := sf_caR hp S t
    have hA := sf_aqR hp S t
    refine B271_p18_33_23 _ _ _ _ _ _ _ _ (B80_23 _ _ ⟨_, rfl, by omega, fun h => by omega, fun _ => ⟨by omega, fun h => by omega, fun _ => ?_⟩⟩)
    rw [h23]
    refine sp74 (by omega) (fun c => ⟨_, rfl, by omega, fun _ => ?_, fun h => by omega⟩) (fun c => ⟨_, rfl, by omega, fun h => by omega, fun _ => B80_23 _ _ ⟨_, rfl, ?_⟩⟩)
    · rw [if_pos c] at nx
      exact nx _ _
    · rw [if_neg (by rw [c]; decide)] at nx
      rw [h24]
      refine B269_33 _ _ _ _ (sp269_p (f := fun G => sf_U P S G (P 1).toNat t) (by omega) (by omega) (fun G a b => hG.2 G a b t) ⟨_, rfl, ?_⟩ (P 1).toNat 0 (by omega))
      have ec : iq_cn (fun G => sf_U P S G (P 1).toNat t) (P 1).toNat = sf_ca P S t := rfl
      rw [ec]
      have fin : iq_P N xs 271 18 [some (iq_r 33), some (iq_r 23), some (iq_i (aGuesses P S)), some (iq_i (sf_aq P S t).1), some (iq_i (sf_aq P S t).2), some (iq_i t), d6, d7] [] g l Q → True := fun _ => trivial
      have two : ∀ w, w = sf_wa P S t → ((-2147483648 ≤ w ∧ w ≤ 2147483647 ∧ -2147483648 ≤ (sf_aq P S t).2 ∧ (sf_aq P S t).2 ≤ 2147483647) ∧ ((sf_aq P S t).2 ≤ w → iq_P N xs 271 18 [some (iq_r 33), some (iq_r 23), some (iq_i (aGuesses P S)), some (iq_i (sf_aq P S t).1), some (iq_i (sf_aq P S t).2), some (iq_i ((t : Int) + 1)), some (iq_i (sf_ca P S t)), some (iq_i w)] [] g l Q) ∧ (w < (sf_aq P S t).2 → iq_P N xs 271 18 [some (iq_r 33), some (iq_r 23), some (iq_i (aGuesses P S)), some (iq_i t), some (iq_i w), some (iq_i ((t : Int) + 1)), some (iq_i (sf_ca P S t)), some (iq_i w)] [] g l Q)) := by
        intro w e
        refine ⟨by omega, fun c => ?_, fun c => ?_⟩
        · rw [if_neg (by omega)] at nx
          exact nx _ _
        · rw [if_pos (by omega)] at nx
          rw [e]
          exact nx _ _
      refine B270 _ _ _ _ ⟨by omega, fun c => ⟨_, rfl, two _ ?_⟩, fun c => ⟨_, rfl, two _ ?_⟩⟩
      · unfold sf_wa; rw [if_pos c]
      · unfold sf_wa; rw [if_neg (by omega)]
theorem cAsk {N : Nat} {xs : Nat → Int32} {Q : iq_T} {g : iq_I} {l : iq_J} (hs : iq_SR g l 23 24 25 0) (q : ∀ (g' : iq_I) (l' : iq_J), iq_KK g l g' l' → g' 0 0 = (aAsk (g 24) (l 23 3)).2 → Q (some (iq_i (aAsk (g 24) (l 23 3)).1)) g' l') : iq_P N xs 272 0 [some (iq_r 0)] [] g l Q := by
  have hp1 := hs.1.2.1
  have hR := aGuessesR hs.1 (l 23 3)
  unfold aAsk at q
  refine B272_0 _ _ (sp263 hs (fun l' hl hG => ⟨rfl, B271_33_23 _ _ (sp88 ⟨_, rfl, ?_⟩)⟩))
  have k0 := iq_KKgl (g := g) hl
  rw [iq_cn_congr (h := sf_fu (g 24) (l 23 3)) (fun t _ _ => sf_GLf hG t), sf_fu64 hs.1]
  by_cases c : aGuesses (g 24) (l 23 3) ≤ 1
  · rw [if_pos (.inl c)] at q
    refine B271_p18_33_23 _ _ _ _ _ _ _ _ (B80_23 _ _ ⟨_, rfl, by omega, fun h => by omega, fun _ => ⟨by omega, fun _ => ?_, fun h => by omega⟩⟩)
    exact ⟨_, rfl, sp167 (by omega) (fun _ => ⟨_, rfl, q _ _ (k0.uz iq_sx00) (by simp [iq_uz])⟩) (fun h => by omega)⟩
  · refine sp271_p (P := g 24) (S := l 23 3) hs.1 rfl (by rw [hl 23 (by decide) (by decide)]) hG (by omega) ⟨_, rfl, ?_⟩ (g 24 1).toNat 0 none none (by omega)
    have hA := sf_aqR hs.1 (l 23 3) (g 24 1).toNat
    refine sp167 (by omega) (fun h => ⟨_, rfl, ?_⟩) (fun h => ⟨_, rfl, ?_⟩)
    · rw [if_pos (.inr h)] at q
      exact q _ _ (k0.uz iq_sx00) (by simp [iq_uz])
    · rw [if_neg (by omega)] at q
      exact q _ _ (k0.uz iq_sx00) (by simp [iq_uz])
theorem sp273_i {N : Nat} {xs : Nat → Int32} {Q : iq_T} {g : iq_I} {l : iq_J} {f : Int → Bool} {v1 v2 v3 t p : Int} (ht : 0 ≤ t ∧ t < 60) (hp : 0 ≤ p ∧ p ≤ 60) (h1 : g 78 1 = p) (hf : ∀ G, 0 ≤ G → G < p → g 96 (60 * G + t) = if f G = true then 1 else 0) (q : iq_P N xs 273 47 [some (iq_r 77), some (iq_i v1), some (iq_i v2), some (iq_i v3), some (iq_i t), some (iq_i (iq_cn f p.toNat)), some (iq_i p)] [] g l Q) (n : Nat) : ∀ G : Nat, (G : Int) + n = p → iq_P N xs 273 47 [some (iq_r 77), some (iq_i v1), some (iq_i v2), some (iq_i v3), some (iq_i t), some (iq_i (iq_cn f G)), some (iq_i G)] [] g l Q := by
  induction n with
  | zero =>
    intro G h
    rw [show p.toNat = G by omega, show p = G by omega] at q
    exact q
  | succ n ih =>
    intro G h
    have nx := ih (G + 1) (by omega)
    rw [iq_cn] at nx
    have e := hf G (by omega) (by omega)
    refine B273_p47_77 _ _ _ _ _ _ _ _ ⟨by omega, fun h => by omega, fun _ => ⟨by omega, ?_⟩⟩
    rw [e]
    rcases hb : f G with _ | _
    · rw [hb] at nx
      exact ⟨by decide, fun _ => nx, fun h => by simp at h⟩
    · rw [hb] at nx
      exact ⟨by decide, fun h => by simp at h, fun _ => nx⟩
theorem sp273_p {N : Nat} {xs : Nat → Int32} {Q : iq_T} {g : iq_I} {l : iq_J} {S : Int64} {P : Int → Int} (hp : iq_pb P) (h78 : g 78 1 = P 1) (hS : ∀ t, 0 ≤ t → t < 60 → g 78 (20 + t) = if iq_tb S t = true then 1 else 0) (hM : sf_GM P S g (P 1) 0) (h1 : 1 < aGuesses P S) (q : Q (some (iq_i (aAsk P S).1)) (iq_uz g 77 1 (aAsk P S).2) l) (n : Nat) : ∀ (t : Nat) (v3 : Int) (d5 d6 : Option iq_V), (t : Int) + n = P 1 → (¬ (sf_aq P S t).1 = -1 → v3 = (sf_aq P S t).2) → iq_P N xs 273 12 [some (iq_r 77), some (iq_i (aGuesses P S)), some (iq_i (sf_aq P S t).1), some (iq_i v3), some (iq_i t), d5, d6] [] g l Q := by
  have hp1 := hp.2.1
  have hR := aGuessesR hp S
  induction n with
  | zero =>
    intro t v3 d5 d6 h hv
    have hA := sf_aqR hp S t
    unfold aAsk at q
    rw [show (P 1).toNat = t by omega] at q
    refine B273_p12_77 _ _ _ _ _ _ _ _ ⟨by omega, fun _ => sp159 (by omega) (fun e => ⟨_, rfl, ?_⟩) (fun e => ⟨_, rfl, ?_⟩), fun h => by omega⟩
    · rw [if_pos (.inr e)] at q
      exact q
    · rw [if_neg (by omega)] at q
      exact q
  | succ n ih =>
    intro t v3 d5 d6 h hv
    have nx := fun v3 d5 d6 => ih (t + 1) v3 d5 d6 (by omega)
    have hw := sf_waR hp S t
    have hc := sf_caR hp S t
    have hA := sf_aqR hp S t
    have eS := hS t (by omega) (by omega)
    refine B273_p12_77 _ _ _ _ _ _ _ _ ⟨by omega, fun h => by omega, fun _ => ⟨by omega, fun h => by omega, fun _ => sp143 (by omega) ⟨_, rfl, ?_⟩⟩⟩
    rw [eS]
    rcases hb : iq_tb S t with _ | _
    · rw [sf_aq, if_neg (by rw [hb]; decide)] at nx
      refine ⟨by decide, fun _ => ?_, fun h => by simp at h⟩
      refine sp273_i (f := fun G => sf_U P S G (P 1).toNat t) (by omega) (show 0 ≤ P 1 ∧ P 1 ≤ 60 by omega) h78 (fun G a b => ?_) ?_ (P 1).toNat 0 (by omega)
      · rw [hM.2 G t a (by omega) (by omega) (by omega), sf_unl b]
      · have ec : iq_cn (fun G => sf_U P S G (P 1).toNat t) (P 1).toNat = sf_ca P S t := rfl
        rw [ec]
        have two : ∀ w, w = sf_wa P S t → ((-2147483648 ≤ (sf_aq P S t).1 ∧ (sf_aq P S t).1 ≤ 2147483647) ∧ ((sf_aq P S t).1 = -1 → iq_P N xs 273 12 [some (iq_r 77), some (iq_i (aGuesses P S)), some (iq_i t), some (iq_i w), some (iq_i ((t : Int) + 1)), some (iq_i (sf_ca P S t)), some (iq_i w)] [] g l Q) ∧ (¬ (sf_aq P S t).1 = -1 → ((-2147483648 ≤ w ∧ w ≤ 2147483647 ∧ -2147483648 ≤ v3 ∧ v3 ≤ 2147483647) ∧ (w < v3 → iq_P N xs 273 12 [some (iq_r 77), some (iq_i (aGuesses P S)), some (iq_i t), some (iq_i w), some (iq_i ((t : Int) + 1)), some (iq_i (sf_ca P S t)), some (iq_i w)] [] g l Q) ∧ (v3 ≤ w → iq_P N xs 273 12 [some (iq_r 77), some (iq_i (aGuesses P S)), some (iq_i (sf_aq P S t).1), some (iq_i v3), some (iq_i ((t : Int) + 1)), some (iq_i (sf_ca P S t)), some (iq_i w)] [] g l Q)))) := by
          intro w e
          refine ⟨by omega, fun c => ?_, fun c => ?_⟩
          · rw [if_pos (by omega)] at nx
            rw [e]
            exact nx _ _ _ (fun _ => rfl)
          · have hv := hv c
            refine ⟨by omega, fun d => ?_, fun d => ?_⟩
            · rw [if_pos (by omega)] at nx
              rw [e]
              exact nx _ _ _ (fun _ => rfl)
            · rw [if_neg (by omega)] at nx
              exact nx _ _ _ (fun _ => hv)
        refine B273_p47_77 _ _ _ _ _ _ _ _ ⟨by omega, fun _ => B270 _ _ _ _ ⟨by omega, fun c => ⟨_, rfl, two _ ?_⟩, fun c => ⟨_, rfl, two _ ?_⟩⟩, fun h => by omega⟩
        · unfold sf_wa; rw [if_pos c]
        · unfold sf_wa; rw [if_neg (by omega)]
    · rw [sf_aq, if_pos hb] at nx
      exact ⟨by decide, fun h => by simp at h, fun _ => nx _ _ _ hv⟩
theorem mAsk {N : Nat} {xs : Nat → Int32} {Q : iq_T} {g : iq_I} {l : iq_J} (hs : iq_SR g l 23 24 25 0) (q : ∀ (g' : iq_I) (l' : iq_J), iq_KK g l g' l' → g' 0 0 = g 0 0 → g' 77 1 = (aAsk (g 24) (l 23 3)).2 → Q (some (iq_i (aAsk (g 24) (l 23 3)).1)) g' l') : iq_P N xs 273 0 [some (iq_r 77), none, none, none, none, none, none] [] g l Q := by
  have hp1 := hs.1.2.1
  have hR := aGuessesR hs.1 (l 23 3)
  refine B273_77 _ _ (sp265 hs (fun g1 k0 k1 hM => ⟨_, rfl, ?_⟩))
  have e1 : g1 78 1 = g 24 1 := by rw [(hs.keep k0).p78 1 (by omega) (by omega), k0.p24]
  by_cases c : aGuesses (g 24) (l 23 3) ≤ 1
  · unfold aAsk at q
    rw [if_pos (.inl c)] at q
    exact B273_p12_77 _ _ _ _ _ _ _ _ ⟨by omega, fun h => by omega, fun _ => ⟨by omega, fun _ => sp159 (by omega) (fun e => ⟨_, rfl, q _ _ (k0.uz iq_sx771) (by simp [iq_uz, k1]) (by simp [iq_uz])⟩) (fun h => by omega), fun h => by omega⟩⟩
  · exact sp273_p hs.1 e1 (hs.keep k0).snd hM (by omega) (q _ _ (k0.uz iq_sx771) (by simp [iq_uz, k1]) (by simp [iq_uz])) (g 24 1).toNat 0 0 none none (by omega) (fun h => (h rfl).elim)
