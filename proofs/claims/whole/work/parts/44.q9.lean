/-! fit, bestRoot, common, nearest. -/
def sf_D (P : Int → Int) (gen root : Int) : Int → Bool := iq_dg (iq_ch (P 1) (P 4) gen root) (P 3).toNat
theorem sf_DR {P : Int → Int} (hp : iq_pb P) {gen root t : Int} (h : sf_D P gen root t = true) : 0 ≤ t ∧ t < P 1 := by
  obtain ⟨j, -, -, e⟩ := iq_dgi.mp h
  rw [← e]
  exact iq_chR (by have := hp.2.1; omega)
section LC
variable {N : Nat} {xs : Nat → Int32} {Q : iq_T} {l : iq_J} {gen root old : Int}
theorem lc1 {g0 : iq_I} (q : ∀ g' : iq_I, (∀ j, ¬ j = 89 → g' j = g0 j) → (∀ t, 0 ≤ t → t < 60 → g' 89 t = 0) → iq_P N xs 192 41 [some (iq_r 77), some (iq_i gen), some (iq_i root), some (iq_i old), some (iq_i 0)] [] (iq_uz g' 78 5 root) l Q) (n : Nat) : ∀ (k : Int) (g : iq_I), 0 ≤ k → k + n = 60 → (∀ j, ¬ j = 89 → g j = g0 j) → (∀ t, 0 ≤ t → t < k → g 89 t = 0) → iq_P N xs 192 10 [some (iq_r 77), some (iq_i gen), some (iq_i root), some (iq_i old), some (iq_i k)] [] g l Q := by
  induction n with
  | zero =>
    intro k g h1 h2 h3 h4
    exact B192_p10_77 _ _ _ _ _ _ ⟨by omega, fun h => q g h3 (fun t a b => h4 t a (by omega)), fun h => by omega⟩
  | succ n ih =>
    intro k g h1 h2 h3 h4
    refine B192_p10_77 _ _ _ _ _ _ ⟨by omega, fun h => by omega, fun h => ⟨by omega, ih (k + 1) _ (by omega) (by omega) (fun j a => ?_) (fun t a b => ?_)⟩⟩
    · rw [← h3 j a]; funext i; simp [iq_uz, a]
    · by_cases c : t = k
      · simp [iq_uz, c]
      · have := h4 t a (by omega)
        simp [iq_uz, c, this]
theorem lc2 {g0 : iq_I} (hp : iq_pb (g0 78)) (h5 : g0 78 5 = root) (hg : 0 ≤ gen ∧ gen < 60) (q : ∀ g' : iq_I, (∀ j, ¬ j = 89 → g' j = g0 j) → (∀ t, 0 ≤ t → t < 60 → g' 89 t = if iq_dg (iq_ch (g0 78 1) (g0 78 4) gen root) (g0 78 3).toNat t = true then 1 else 0) → Q none (iq_uz g' 78 5 old) l) (n : Nat) : ∀ (k : Nat) (g : iq_I), (k : Int) + n = g0 78 3 → (∀ j, ¬ j = 89 → g j = g0 j) → (∀ t, 0 ≤ t → t < 60 → g 89 t = if iq_dg (iq_ch (g0 78 1) (g0 78 4) gen root) k t = true then 1 else 0) → iq_P N xs 192 41 [some (iq_r 77), some (iq_i gen), some (iq_i root), some (iq_i old), some (iq_i k)] [] g l Q := by
  have hp1 := hp.2.1
  have hp3 := hp.2.2.2.1
  induction n with
  | zero =>
    intro k g h2 h3 h4
    have h78 := h3 78 (by decide)
    rw [show (g0 78 3).toNat = k by omega] at q
    exact B192_p41_77 _ _ _ _ _ _ ⟨by rw [h78]; omega, fun h => q g h3 h4, fun h => by rw [h78] at h; omega⟩
  | succ n ih =>
    intro k g h2 h3 h4
    have h78 := h3 78 (by decide)
    have hr := iq_chR (p := g0 78 1) (down := g0 78 4) (gen := gen) (root := root) (k := k) (by omega)
    refine B192_p41_77 _ _ _ _ _ _ ⟨by rw [h78]; omega, fun h => by rw [h78] at h; omega, fun h => sp112 (by rw [h78]; exact hp) (by omega) hg ⟨_, rfl, ?_⟩⟩
    rw [h78, h5]
    refine ⟨by omega, ih (k + 1) _ (by omega) (fun j a => ?_) (fun t a b => ?_)⟩
    · rw [← h3 j a]; funext i; simp [iq_uz, a]
    · rw [iq_dg]
      by_cases c : t = iq_ch (g0 78 1) (g0 78 4) gen root k
      · simp [iq_uz, c]
      · have c2 : ¬ iq_ch (g0 78 1) (g0 78 4) gen root k = t := fun e => c e.symm
        have := h4 t a b
        simp [iq_uz, c, c2, this]
end LC
theorem sp192 {N : Nat} {xs : Nat → Int32} {Q : iq_T} {g : iq_I} {l : iq_J} {gen root : Int} (hs : iq_SR g l 23 24 25 0) (hg : 0 ≤ gen ∧ gen < 60) (hr : 0 ≤ root ∧ root < g 24 1) (q : ∀ g' : iq_I, (∀ j, ¬ j = 89 → g' j = g j) → (∀ t, 0 ≤ t → t < 60 → g' 89 t = if sf_D (g 24) gen root t = true then 1 else 0) → Q none g' l) : iq_P N xs 192 0 [some (iq_r 77), some (iq_i gen), some (iq_i root), none, none] [] g l Q := by
  have hp := iq_pb_congr hs.p78 hs.1
  have e1 := hs.p78 1 (by omega) (by omega)
  have e3 := hs.p78 3 (by omega) (by omega)
  have e4 := hs.p78 4 (by omega) (by omega)
  have hp3 := hs.1.2.2.2.1
  refine B192_77 _ _ _ _ (lc1 (g0 := g) (fun g1 a1 b1 => ?_) 60 0 g (by omega) (by omega) (fun _ _ => rfl) (fun t a b => by omega))
  have h78 : g1 78 = g 78 := a1 78 (by decide)
  have hk : ∀ k, ¬ k = 5 → (iq_uz g1 78 5 root) 78 k = g 78 k := fun k h => by rw [← h78]; simp [iq_uz, h]
  have h5 : (iq_uz g1 78 5 root) 78 5 = root := by simp [iq_uz]
  have hp' : iq_pb ((iq_uz g1 78 5 root) 78) := by
    unfold iq_pb at hp ⊢
    rw [hk 0 (by omega), hk 1 (by omega), hk 2 (by omega), hk 3 (by omega), hk 4 (by omega), hk 6 (by omega), hk 7 (by omega), hk 8 (by omega), h5]
    obtain ⟨p0, p1, p2, p3, p4, p5, p6, p7, p8⟩ := hp
    exact ⟨p0, p1, p2, p3, p4, by omega, p6, p7, p8⟩
  refine lc2 (g0 := iq_uz g1 78 5 root) hp' h5 hg (fun g2 a2 b2 => ?_) (g 78 3).toNat 0 _ (by rw [hk 3 (by omega)]; omega) (fun _ _ => rfl) (fun t a b => ?_)
  · rw [hk 1 (by omega), hk 3 (by omega), hk 4 (by omega), e1, e3, e4] at b2
    refine q _ (fun j a => ?_) (fun t a b => ?_)
    · funext i
      by_cases c : j = 78
      · subst c
        by_cases d : i = 5
        · subst d; simp [iq_uz]
        · have : g2 78 i = g 78 i := by rw [a2 78 (by decide)]; exact hk i d
          simp [iq_uz, d, this]
      · have : g2 j i = g j i := by rw [a2 j a, ← a1 j a]; simp [iq_uz, c]
        simp [iq_uz, c, this]
    · rw [show (iq_uz g2 78 5 (g 78 5)) 89 t = g2 89 t by simp [iq_uz]]
      exact b2 t a b
  · rw [show (iq_uz g1 78 5 root) 89 t = g1 89 t by simp [iq_uz], b1 t a b]
    simp [iq_dg]
theorem sp193_p {N : Nat} {xs : Nat → Int32} {Q : iq_T} {g : iq_I} {l : iq_J} {D S : Int → Bool} (hD : ∀ t, 0 ≤ t → t < 60 → g 89 t = if D t = true then 1 else 0) (hS : ∀ t, 0 ≤ t → t < 60 → g 78 (20 + t) = if S t = true then 1 else 0) (q : Q (some (iq_i (iq_cn (fun t => D t && S t) 60))) g l) (n : Nat) : ∀ k : Nat, k + n = 60 → iq_P N xs 193 4 [some (iq_r 77), some (iq_i (iq_cn (fun t => D t && S t) k)), some (iq_i k)] [] g l Q := by
  induction n with
  | zero =>
    intro k h
    rw [show 60 = k by omega] at q
    exact B193_p4_77 _ _ _ _ ⟨by omega, fun h => q, fun h => by omega⟩
  | succ n ih =>
    intro k h
    have := ih (k + 1) (by omega)
    rw [iq_cn] at this
    refine B193_p4_77 _ _ _ _ ⟨by omega, fun h => by omega, fun h => ⟨by omega, ?_⟩⟩
    rw [hD k (by omega) (by omega)]
    rcases hb : D k with _ | _
    · rw [hb] at this
      rw [if_neg (show ¬ (false = true) by decide)]
      exact ⟨by omega, fun _ => this, fun h => by omega⟩
    · rw [hb] at this
      rw [if_pos rfl]
      refine ⟨by omega, fun h => by omega, fun _ => sp143 (by omega) ⟨_, rfl, ?_⟩⟩
      rw [hS k (by omega) (by omega)]
      rw [Bool.true_and] at this
      exact this
def sf_fit (P : Int → Int) (S : Int64) (gen root : Int) : Int := iq_cn (fun t => sf_D P gen root t && iq_tb S t) 64
theorem sf_fit60 {P : Int → Int} (hp : iq_pb P) (S : Int64) (gen root : Int) : iq_cn (fun t => sf_D P gen root t && iq_tb S t) 60 = sf_fit P S gen root := by
  have hp1 := hp.2.1
  unfold sf_fit
  symm
  refine iq_cn_ext (by omega) (fun i a b => ?_)
  rcases hb : sf_D P gen root i with _ | _
  · rfl
  · have := sf_DR hp hb; omega
theorem sf_fitR (P : Int → Int) (S : Int64) (gen root : Int) : 0 ≤ sf_fit P S gen root ∧ sf_fit P S gen root ≤ 64 := iq_cn_nonneg _ 64
theorem sp193 {N : Nat} {xs : Nat → Int32} {Q : iq_T} {g : iq_I} {l : iq_J} {P : Int → Int} {gen root : Int} {S : Int64} (hp : iq_pb P) (hD : ∀ t, 0 ≤ t → t < 60 → g 89 t = if sf_D P gen root t = true then 1 else 0) (hS : ∀ t, 0 ≤ t → t < 60 → g 78 (20 + t) = if iq_tb S t = true then 1 else 0) (q : Q (some (iq_i (sf_fit P S gen root))) g l) : iq_P N xs 193 0 [some (iq_r 77), none, none] [] g l Q :=
  B193_77 _ _ (sp193_p hD hS (by rw [sf_fit60 hp]; exact q) 60 0 (by omega))
theorem iq_KKc {g g' : iq_I} {l : iq_J} (h : ∀ j, ¬ j = 89 → g' j = g j) : iq_KK g l g' l := by
  refine iq_KK.ofg (fun j k hb => ?_)
  rw [h j (fun e => by rw [e] at hb; simp [iq_sx] at hb)]
theorem sp194 {N : Nat} {xs : Nat → Int32} {Q : iq_T} {g : iq_I} {l : iq_J} (hs : iq_SR g l 23 24 25 0) (q : ∀ g' : iq_I, (∀ j, ¬ j = 89 → g' j = g j) → Q (some (iq_i (sf_fit (g 24) (l 23 3) (g 24 2) (g 24 5)))) g' l) : iq_P N xs 194 0 [some (iq_r 77)] [] g l Q := by
  have hp := hs.1
  obtain ⟨p0, p1, p2, p3, p4, p5, p6, p7, p8⟩ := hp
  have e2 := hs.p78 2 (by omega) (by omega)
  have e5 := hs.p78 5 (by omega) (by omega)
  refine B194_77 _ _ ?_
  rw [e2, e5]
  refine sp192 hs (by omega) p5 (fun g' a b => ⟨rfl, sp193 hs.1 b (fun t x y => ?_) ⟨_, rfl, q g' a⟩⟩)
  rw [a 78 (by decide)]
  exact hs.snd t x y
theorem sf_fitc {g : iq_I} {l : iq_J} (hs : iq_SR g l 23 24 25 0) : iq_cn (iq_tb (l 23 3 &&& l 23 4)) 64 = sf_fit (g 24) (l 23 3) (g 24 2) (g 24 5) := by
  unfold sf_fit
  refine iq_cn_congr (fun i a b => ?_)
  rw [iq_tb_and, hs.2.2.1, Bool.and_comm]
  rfl
def aFit (P : Int → Int) (S : Int64) : Int := sf_fit P S (P 2) (P 5)
theorem cFit {N : Nat} {xs : Nat → Int32} {Q : iq_T} {g : iq_I} {l : iq_J} (hs : iq_SR g l 23 24 25 0) (q : ∀ (g' : iq_I) (l' : iq_J), iq_KK g l g' l' → g' 0 0 = 0 → Q (some (iq_i (aFit (g 24) (l 23 3)))) g' l') : iq_P N xs 258 0 [some (iq_r 0)] [] g l Q := by
  refine B258_0 _ _ (sp189_23 ⟨_, rfl, sp90 ⟨_, rfl, ?_⟩⟩)
  rw [sf_fitc hs]
  exact q _ _ ((iq_KK.refl _ _).uz iq_sx00) (by simp [iq_uz])
theorem mFit {N : Nat} {xs : Nat → Int32} {Q : iq_T} {g : iq_I} {l : iq_J} (hs : iq_SR g l 23 24 25 0) (q : ∀ (g' : iq_I) (l' : iq_J), iq_KK g l g' l' → g' 0 0 = g 0 0 → g' 77 1 = 0 → Q (some (iq_i (aFit (g 24) (l 23 3)))) g' l') : iq_P N xs 259 0 [some (iq_r 77)] [] g l Q := by
  refine B259_77 _ _ (sp194 hs (fun g' a => ⟨_, rfl, sp115 ⟨_, rfl, ?_⟩⟩))
  exact q _ _ ((iq_KKc a).uz iq_sx771) (by simp [iq_uz, a 0 (by decide)]) (by simp [iq_uz])
/-! by another root -/
theorem sf_chr {p down gen root j : Int} (hp : 0 < p) : iq_ch p down gen root j = (iq_ch p down gen 0 j + root) % p := by
  unfold iq_ch
  rw [Int.emod_add_emod]
  congr 1
  omega
theorem sf_turn {P : Int → Int} (hp : iq_pb P) {gen root : Int} (hr : 0 ≤ root ∧ root < P 1) {y : Int64} (hy : ∀ t, iq_tb y t = true ↔ ∃ j, 0 ≤ j ∧ j < P 3 ∧ iq_ch (P 1) (P 4) gen 0 j = t) (t : Int) : iq_tb (iq_turn y root (P 1)) t = sf_D P gen root t := by
  have hp1 := hp.2.1
  have hp3 := hp.2.2.2.1
  rw [iq_tbturn hr.1 hr.2 (by omega) (fun t h => by obtain ⟨j, -, -, e⟩ := (hy t).mp h; rw [← e]; exact (iq_chR (by omega)).2)]
  refine iq_beq ?_
  rw [Bool.and_eq_true, Bool.and_eq_true, decide_eq_true_eq, decide_eq_true_eq, hy]
  unfold sf_D
  rw [iq_dgi]
  constructor
  · rintro ⟨⟨a, b⟩, j, j1, j2, j3⟩
    refine ⟨j, j1, by omega, ?_⟩
    rw [sf_chr (by omega), j3, Int.emod_add_emod, show t - root + root = t by omega]
    exact Int.emod_eq_of_lt a b
  · rintro ⟨j, j1, j2, j3⟩
    have hR := iq_chR (p := P 1) (down := P 4) (gen := gen) (root := root) (k := j) (by omega)
    have hR0 := iq_chR (p := P 1) (down := P 4) (gen := gen) (root := 0) (k := j) (by omega)
    refine ⟨by rw [← j3]; exact hR, j, j1, by omega, ?_⟩
    rw [← j3, sf_chr (root := root) (by omega), Int.emod_sub_emod, show iq_ch (P 1) (P 4) gen 0 j + root - root = iq_ch (P 1) (P 4) gen 0 j by omega]
    exact (Int.emod_eq_of_lt hR0.1 hR0.2).symm
/-- the best root so far, and its fit -/
def sf_br (F : Int → Int) : Nat → Int × Int
  | 0 => (0, -1)
  | n + 1 => if (sf_br F n).2 < F n then ((n : Int), F n) else sf_br F n
def aBestRoot (P : Int → Int) (S : Int64) : Int := (sf_br (fun r => sf_fit P S (P 2) r) (P 1).toNat).1
theorem sf_brR (P : Int → Int) (S : Int64) (gen : Int) (n : Nat) : -1 ≤ (sf_br (fun r => sf_fit P S gen r) n).2 ∧ (sf_br (fun r => sf_fit P S gen r) n).2 ≤ 64 := by
  induction n with
  | zero => rw [sf_br]; omega
  | succ n ih =>
    rw [sf_br]
    split
    · have := sf_fitR P S gen n
      dsimp only
      omega
    · exact ih
theorem sp260_p {N : Nat} {xs : Nat → Int32} {Q : iq_T} {g : iq_I} {l : iq_J} {y : Int64} (hs : iq_SR g l 23 24 25 0) (hy : ∀ t, iq_tb y t = true ↔ ∃ j, 0 ≤ j ∧ j < g 24 3 ∧ iq_ch (g 24 1) (g 24 4) (g 24 2) 0 j = t) (q : Q (some (iq_i (aBestRoot (g 24) (l 23 3)))) (iq_uz g 0 0 0) l) (n : Nat) : ∀ (r : Nat) (d6 : Option iq_V), (r : Int) + n = g 24 1 → iq_P N xs 260 33 [some (iq_r 0), some (iq_l y), none, some (iq_i (sf_br (fun r => sf_fit (g 24) (l 23 3) (g 24 2) r) r).1), some (iq_i (sf_br (fun r => sf_fit (g 24) (l 23 3) (g 24 2) r) r).2), some (iq_i r), d6] [] g l Q := by
  have hp1 := hs.1.2.1
  induction n with
  | zero =>
    intro r d6 h
    unfold aBestRoot at q
    rw [show (g 24 1).toNat = r by omega] at q
    exact B260_p33_0 _ _ _ _ _ _ _ (B80_23 _ _ ⟨_, rfl, by omega, fun h => sp90 ⟨_, rfl, q⟩, fun h => by omega⟩)
  | succ n ih =>
    intro r d6 h
    have := fun d6 => ih (r + 1) d6 (by omega)
    rw [sf_br] at this
    have hR := sf_brR (g 24) (l 23 3) (g 24 2) r
    have hF := sf_fitR (g 24) (l 23 3) (g 24 2) r
    refine B260_p33_0 _ _ _ _ _ _ _ (B80_23 _ _ ⟨_, rfl, by omega, fun h => by omega, fun h => B80_23 _ _ ⟨_, rfl, sp188 (by omega) ⟨_, rfl, sp88 ⟨_, rfl, ?_⟩⟩⟩⟩)
    have e : iq_cn (iq_tb (((iq_lsl y r ||| iq_lsr y (g 24 1 - r)) &&& (iq_of (g 24 1) - 1)) &&& l 23 3)) 64 = sf_fit (g 24) (l 23 3) (g 24 2) r := by
      unfold sf_fit
      refine iq_cn_congr (fun i a b => ?_)
      rw [iq_tb_and]
      congr 1
      exact sf_turn hs.1 (by omega) hy i
    rw [e]
    refine ⟨by omega, fun c => ?_, fun c => ?_⟩
    · rw [if_neg (by omega)] at this
      exact this _
    · rw [if_pos c] at this
      exact this _
theorem cBestRoot {N : Nat} {xs : Nat → Int32} {Q : iq_T} {g : iq_I} {l : iq_J} (hs : iq_SR g l 23 24 25 0) (q : ∀ (g' : iq_I) (l' : iq_J), iq_KK g l g' l' → g' 0 0 = 0 → Q (some (iq_i (aBestRoot (g 24) (l 23 3)))) g' l') : iq_P N xs 260 0 [some (iq_r 0), none, none, none, none, none, none] [] g l Q := by
  have hp := hs.1
  obtain ⟨p0, p1, p2, p3, p4, p5, p6, p7, p8⟩ := hp
  exact B260_0 _ _ (sp135_23 (by omega) ⟨_, rfl, sp135_23 (by omega) ⟨_, rfl, sp8_23 hs.1 p2 (by omega) (by omega) (fun y hy => ⟨_, rfl, sp260_p hs hy (q _ _ ((iq_KK.refl _ _).uz iq_sx00) (by simp [iq_uz])) (g 24 1).toNat 0 none (by omega)⟩)⟩⟩)
theorem sp261_p {N : Nat} {xs : Nat → Int32} {Q : iq_T} {l : iq_J} {g0 : iq_I} (hs : iq_SR g0 l 23 24 25 0) (q : ∀ g' : iq_I, (∀ j, ¬ j = 89 → g' j = g0 j) → Q (some (iq_i (aBestRoot (g0 24) (l 23 3)))) (iq_uz g' 77 1 0) l) (n : Nat) : ∀ (r : Nat) (g : iq_I), (r : Int) + n = g0 24 1 → (∀ j, ¬ j = 89 → g j = g0 j) → iq_P N xs 261 6 [some (iq_r 77), some (iq_i (sf_br (fun r => sf_fit (g0 24) (l 23 3) (g0 24 2) r) r).1), some (iq_i (sf_br (fun r => sf_fit (g0 24) (l 23 3) (g0 24 2) r) r).2), some (iq_i r)] [] g l Q := by
  have hp := hs.1
  obtain ⟨p0, p1, p2, p3, p4, p5, p6, p7, p8⟩ := hp
  have e1 := hs.p78 1 (by omega) (by omega)
  have e2 := hs.p78 2 (by omega) (by omega)
  induction n with
  | zero =>
    intro r g h h3
    have h78 := h3 78 (by decide)
    unfold aBestRoot at q
    rw [show (g0 24 1).toNat = r by omega] at q
    exact B261_p6_77 _ _ _ _ _ ⟨by rw [h78, e1]; omega, fun h => sp115 ⟨_, rfl, q g h3⟩, fun h => by rw [h78, e1] at h; omega⟩
  | succ n ih =>
    intro r g h h3
    have h78 := h3 78 (by decide)
    have h24 := h3 24 (by decide)
    have this := fun g h3 => ih (r + 1) g (by omega) h3
    rw [sf_br] at this
    have hR := sf_brR (g0 24) (l 23 3) (g0 24 2) r
    have hF := sf_fitR (g0 24) (l 23 3) (g0 24 2) r
    refine B261_p6_77 _ _ _ _ _ ⟨by rw [h78, e1]; omega, fun h => by rw [h78, e1] at h; omega, fun h => ?_⟩
    rw [h78, e2]
    refine sp192 (hs.keep (iq_KKc h3)) (by omega) (by rw [h24]; omega) (fun g1 a b => ⟨rfl, ?_⟩)
    rw [h24] at b
    have h31 : ∀ j, ¬ j = 89 → g1 j = g0 j := fun j hj => by rw [a j hj, h3 j hj]
    have hS : ∀ t, 0 ≤ t → t < 60 → g1 78 (20 + t) = if iq_tb (l 23 3) t = true then 1 else 0 := fun t x y => by
      rw [h31 78 (by decide)]; exact hs.snd t x y
    refine sp193 hs.1 b hS ⟨_, rfl, by omega, fun c => sp193 hs.1 b hS ⟨_, rfl, ?_⟩, fun c => ?_⟩
    · rw [if_pos c] at this
      exact this g1 h31
    · rw [if_neg (by omega)] at this
      exact this g1 h31
theorem mBestRoot {N : Nat} {xs : Nat → Int32} {Q : iq_T} {g : iq_I} {l : iq_J} (hs : iq_SR g l 23 24 25 0) (q : ∀ (g' : iq_I) (l' : iq_J), iq_KK g l g' l' → g' 0 0 = g 0 0 → g' 77 1 = 0 → Q (some (iq_i (aBestRoot (g 24) (l 23 3)))) g' l') : iq_P N xs 261 0 [some (iq_r 77), none, none, none] [] g l Q := by
  have hp1 := hs.1.2.1
  exact B261_77 _ _ (sp261_p hs (fun g' a => q _ _ ((iq_KKc a).uz iq_sx771) (by simp [iq_uz, a 0 (by decide)]) (by simp [iq_uz])) (g 24 1).toNat 0 g (by omega) (fun _ _ => rfl))
/-! common -/
theorem sf_cnT {P : Int → Int} (hp : iq_pb P) (D : Int → Bool) (n : Nat) (hn : (n : Int) ≤ P 1) : iq_cn (fun t => iq_f P t && D t) n = iq_cn (fun d => D (iq_t P d)) (iq_cn (iq_f P) n).toNat := by
  induction n with
  | zero => rfl
  | succ n ih =>
    have hc := iq_cn_nonneg (iq_f P) n
    rw [iq_cn, ih (by omega)]
    rcases hb : iq_f P n with _ | _
    · rw [show iq_cn (iq_f P) (n + 1) = iq_cn (iq_f P) n by rw [iq_cn, hb]; simp]
      simp
    · rw [show iq_cn (iq_f P) (n + 1) = iq_cn (iq_f P) n + 1 by rw [iq_cn, hb]; simp, show (iq_cn (iq_f P) n + 1).toNat = (iq_cn (iq_f P) n).toNat + 1 by omega, iq_cn, Int.toNat_of_nonneg hc.1, iq_tv hp hb]
      simp
def aCommon (P : Int → Int) (r : Int) : Int × Int := if 0 ≤ r ∧ r < P 1 then (iq_cn (fun d => sf_D P (P 2) r (iq_t P d)) (iq_m P).toNat, 0) else (-1, 1)
theorem cCommon {N : Nat} {xs : Nat → Int32} {Q : iq_T} {g : iq_I} {l : iq_J} {r : Int} (hs : iq_SR g l 23 24 25 0) (hd : -2147483648 ≤ r ∧ r ≤ 2147483647) (q : ∀ (g' : iq_I) (l' : iq_J), iq_KK g l g' l' → g' 0 0 = (aCommon (g 24) r).2 → Q (some (iq_i (aCommon (g 24) r).1)) g' l') : iq_P N xs 274 0 [some (iq_r 0), some (iq_i r), none, none] [] g l Q := by
  unfold aCommon at q
  have hp := hs.1
  obtain ⟨p0, p1, p2, p3, p4, p5, p6, p7, p8⟩ := hp
  refine B274_0 _ _ _ (sp77_23 hd (by omega) (fun a b => ⟨_, rfl, by omega, fun _ => sp135_23 (by omega) ⟨_, rfl, sp135_23 (by omega) ⟨_, rfl, sp8_23 hs.1 p2 (by omega) (by omega) (fun y hy => ⟨_, rfl, sp88 ⟨_, rfl, sp90 ⟨_, rfl, ?_⟩⟩⟩)⟩⟩, fun h => by omega⟩) (fun a => ⟨_, rfl, by omega, fun h => by omega, fun _ => sp44 ⟨_, rfl, ?_⟩⟩))
  · rw [if_pos ⟨a, b⟩] at q
    have e : iq_cn (iq_tb (l 23 4 &&& y)) 64 = iq_cn (fun d => sf_D (g 24) (g 24 2) r (iq_t (g 24) d)) (iq_m (g 24)).toNat := by
      have h := sf_cnT hs.1 (sf_D (g 24) (g 24 2) r) (g 24 1).toNat (by omega)
      unfold iq_m
      rw [← h]
      rw [iq_cn_congr (f := iq_tb (l 23 4 &&& y)) (h := fun t => iq_f (g 24) t && sf_D (g 24) (g 24 2) r t) (fun i _ _ => ?_)]
      · refine iq_cn_ext (by omega) (fun i a b => ?_)
        rcases hb : iq_f (g 24) i with _ | _
        · rfl
        · have := iq_fR hs.1 hb; omega
      · rw [iq_tb_and, hs.2.2.1]
        congr 1
        refine iq_beq ?_
        rw [hy]
        unfold sf_D
        rw [iq_dgi]
        constructor
        · rintro ⟨j, j1, j2, j3⟩; exact ⟨j, j1, by omega, j3⟩
        · rintro ⟨j, j1, j2, j3⟩; exact ⟨j, j1, by omega, j3⟩
    rw [e]
    exact q _ _ ((iq_KK.refl _ _).uz iq_sx00) (by simp [iq_uz])
  · rw [if_neg a] at q
    exact q _ _ ((iq_KK.refl _ _).uz iq_sx00) (by simp [iq_uz])
theorem sp275_p {N : Nat} {xs : Nat → Int32} {Q : iq_T} {g : iq_I} {l : iq_J} {P : Int → Int} {r : Int} (hp : iq_pb P) (h26 : g 77 26 = iq_m P) (ht : ∀ d, 0 ≤ d → d < iq_m P → g 85 d = iq_t P d) (hD : ∀ t, 0 ≤ t → t < 60 → g 89 t = if sf_D P (P 2) r t = true then 1 else 0) (q : Q (some (iq_i (iq_cn (fun d => sf_D P (P 2) r (iq_t P d)) (iq_m P).toNat))) (iq_uz g 77 1 0) l) (n : Nat) : ∀ d : Nat, (d : Int) + n = iq_m P → iq_P N xs 275 33 [some (iq_r 77), some (iq_i r), some (iq_i (iq_cn (fun d => sf_D P (P 2) r (iq_t P d)) d)), some (iq_i d)] [] g l Q := by
  have hm := iq_mR hp
  have hp1 := hp.2.1
  have hp3 := hp.2.2.2.1
  induction n with
  | zero =>
    intro d h
    rw [show (iq_m P).toNat = d by omega] at q
    exact B275_p33_77 _ _ _ _ _ ⟨by omega, fun h => sp115 ⟨_, rfl, q⟩, fun h => by omega⟩
  | succ n ih =>
    intro d h
    have := ih (d + 1) (by omega)
    rw [iq_cn] at this
    have hT := (iq_trg hp).2.1 d (by omega) (by omega)
    have e := ht d (by omega) (by omega)
    refine B275_p33_77 _ _ _ _ _ ⟨by omega, fun h => by omega, fun h => ⟨by omega, by omega, ?_⟩⟩
    rw [e, hD _ (by omega) (by omega)]
    rcases hb : sf_D P (P 2) r (iq_t P d) with _ | _
    · rw [hb] at this
      rw [if_neg (show ¬ (false = true) by decide)]
      exact ⟨by omega, fun _ => this, fun h => by omega⟩
    · rw [hb] at this
      rw [if_pos rfl]
      exact ⟨by omega, fun h => by omega, fun _ => this⟩
theorem mCommon {N : Nat} {xs : Nat → Int32} {Q : iq_T} {g : iq_I} {l : iq_J} {r : Int} (hs : iq_SR g l 23 24 25 0) (hd : -2147483648 ≤ r ∧ r ≤ 2147483647) (q : ∀ (g' : iq_I) (l' : iq_J), iq_KK g l g' l' → g' 0 0 = g 0 0 → g' 77 1 = (aCommon (g 24) r).2 → Q (some (iq_i (aCommon (g 24) r).1)) g' l') : iq_P N xs 275 0 [some (iq_r 77), some (iq_i r), none, none] [] g l Q := by
  unfold aCommon at q
  have hp := hs.1
  obtain ⟨p0, p1, p2, p3, p4, p5, p6, p7, p8⟩ := hp
  have hm := iq_mR hs.1
  have e1 := hs.p78 1 (by omega) (by omega)
  have e2 := hs.p78 2 (by omega) (by omega)
  refine B275_77 _ _ _ (sp158 hd (by omega) (fun a b => ⟨_, rfl, by omega, fun _ => sp114c hs (fun g' f1 f2 f3 => ⟨rfl, ?_⟩), fun h => by omega⟩) (fun a => ⟨_, rfl, by omega, fun h => by omega, fun _ => sp98 ⟨_, rfl, ?_⟩⟩))
  · rw [e1] at b
    rw [if_pos ⟨a, b⟩] at q
    have kk := iq_KKl (l := l) f1 f2
    have h0 : g' 0 0 = g 0 0 := congrFun (f1 0 (by decide) (.inl (by decide))) 0
    have h78 : g' 78 = g 78 := f1 78 (by decide) (.inl (by decide))
    have h24 : g' 24 = g 24 := kk.p24
    rw [h78, e2]
    refine sp192 (hs.keep kk) (by omega) (by rw [h24]; omega) (fun g2 a2 b2 => ⟨rfl, ?_⟩)
    rw [h24] at b2
    refine sp275_p hs.1 (by rw [a2 77 (by decide)]; exact f3.1) (fun d x y => by rw [a2 85 (by decide)]; exact f3.2.1 d x y) b2 ?_ (iq_m (g 24)).toNat 0 (by omega)
    exact q _ _ ((kk.trans (iq_KKc a2)).uz iq_sx771) (by simp [iq_uz, a2 0 (by decide), h0]) (by simp [iq_uz])
  · rw [e1] at a
    rw [if_neg a] at q
    exact q _ _ ((iq_KK.refl _ _).uz iq_sx771) (by simp [iq_uz]) (by simp [iq_uz])
/-! nearest -/
def sf_nr (P : Int → Int) (t : Int) : Nat → Int → Int
  | 0, _ => -1
  | k + 1, n => if iq_f P ((t - n) % P 1) = true then iq_cn (iq_f P) ((t - n) % P 1).toNat else if iq_f P ((t + n) % P 1) = true then iq_cn (iq_f P) ((t + n) % P 1).toNat else sf_nr P t k (n + 1)
theorem sf_nrR (P : Int → Int) (t : Int) (k : Nat) : ∀ n, -1 ≤ sf_nr P t k n := by
  induction k with
  | zero => intro n; rw [sf_nr]; omega
  | succ k ih =>
    intro n
    rw [sf_nr]
    split
    · have := iq_cn_nonneg (iq_f P) ((t - n) % P 1).toNat; omega
    · split
      · have := iq_cn_nonneg (iq_f P) ((t + n) % P 1).toNat; omega
      · exact ih _
theorem sf_nrN {P : Int → Int} {t : Int} (k : Nat) : ∀ n : Int, sf_nr P t k n = -1 → ∀ i, n ≤ i → i < n + k → iq_f P ((t - i) % P 1) = false := by
  induction k with
  | zero => intro n _ i; omega
  | succ k ih =>
    intro n h i a b
    rw [sf_nr] at h
    rcases hb : iq_f P ((t - n) % P 1) with _ | _
    · rw [hb, if_neg (by decide)] at h
      rcases hc : iq_f P ((t + n) % P 1) with _ | _
      · rw [hc, if_neg (by decide)] at h
        by_cases e : i = n
        · rw [e]; exact hb
        · exact ih (n + 1) h i (by omega) (by omega)
      · rw [hc, if_pos rfl] at h
        have := iq_cn_nonneg (iq_f P) ((t + n) % P 1).toNat; omega
    · rw [hb, if_pos rfl] at h
      have := iq_cn_nonneg (iq_f P) ((t - n) % P 1).toNat; omega
theorem sf_nrM {P : Int → Int} {t : Int} (k j : Nat) : ∀ n : Int, ¬ sf_nr P t k n = -1 → sf_nr P t (k + j) n = sf_nr P t k n := by
  induction k with
  | zero => intro n h; exact (h rfl).elim
  | succ k ih =>
    intro n h
    rw [show k + 1 + j = (k + j) + 1 by omega, sf_nr, sf_nr]
    rw [sf_nr] at h
    by_cases c : iq_f P ((t - n) % P 1) = true
    · rw [if_pos c, if_pos c]
    · rw [if_neg c] at h ⊢
      rw [if_neg c]
      by_cases d : iq_f P ((t + n) % P 1) = true
      · rw [if_pos d, if_pos d]
      · rw [if_neg d] at h ⊢
        rw [if_neg d]
        exact ih (n + 1) h
theorem sf_nrF {P : Int → Int} (hp : iq_pb P) {t : Int} (ht : 0 ≤ t ∧ t < P 1) : ¬ sf_nr P t (P 1).toNat 0 = -1 := by
  intro h
  have hm := iq_mR hp
  have hp1 := hp.2.1
  have hf := sf_ft hp (e := 0) (by omega) (by omega)
  have hT := (iq_trg hp).2.1 0 (by omega) (by omega)
  have e1 := Int.emod_nonneg (t - iq_t P 0) (show P 1 ≠ 0 by omega)
  have e2 := Int.emod_lt_of_pos (t - iq_t P 0) (show 0 < P 1 by omega)
  have := sf_nrN (P 1).toNat 0 h ((t - iq_t P 0) % P 1) e1 (by omega)
  rw [Int.sub_emod, Int.emod_emod, ← Int.sub_emod, show t - (t - iq_t P 0) = iq_t P 0 by omega, Int.emod_eq_of_lt hT.1 hT.2, hf] at this
  cases this
def aNearest (P : Int → Int) (t : Int) : Int × Int := if 0 ≤ t ∧ t < P 1 then (sf_nr P t (P 1).toNat 0, 0) else (-1, 1)
theorem sp256_p {N : Nat} {xs : Nat → Int32} {Q : iq_T} {g : iq_I} {l : iq_J} {t : Int} (hs : iq_SR g l 23 24 25 0) (ht : 0 ≤ t ∧ t < g 24 1) (k : Nat) : ∀ (n : Int) (d3 d4 : Option iq_V), 0 ≤ n → n + k = 60 → ¬ sf_nr (g 24) t k n = -1 → Q (some (iq_i (sf_nr (g 24) t k n))) (iq_uz g 0 0 0) l → iq_P N xs 256 19 [some (iq_r 0), some (iq_i t), some (iq_i n), d3, d4] [] g l Q := by
  have hp1 := hs.1.2.1
  induction k with
  | zero => intro n d3 d4 _ _ h; exact (h rfl).elim
  | succ k ih =>
    intro n d3 d4 h1 h2 hne q
    rw [sf_nr] at hne q
    have a1 := Int.emod_nonneg (t - n) (show g 24 1 ≠ 0 by omega)
    have a2 := Int.emod_lt_of_pos (t - n) (show 0 < g 24 1 by omega)
    have b1 := Int.emod_nonneg (t + n) (show g 24 1 ≠ 0 by omega)
    have b2 := Int.emod_lt_of_pos (t + n) (show 0 < g 24 1 by omega)
    refine B256_p19_0 _ _ _ _ _ _ ⟨by omega, fun h => by omega, fun h => sp5_23 (by omega) (by omega) ⟨_, rfl, sp155_23 (by omega) (fun c => ⟨_, rfl, by omega, fun h => by omega, fun _ => sp156 hs ⟨a1, by omega⟩ ⟨_, rfl, sp90 ⟨_, rfl, ?_⟩⟩⟩) (fun c => ⟨_, rfl, by omega, fun _ => sp5_23 (by omega) (by omega) ⟨_, rfl, sp155_23 (by omega) (fun c2 => ⟨_, rfl, by omega, fun h => by omega, fun _ => sp156 hs ⟨b1, by omega⟩ ⟨_, rfl, sp90 ⟨_, rfl, ?_⟩⟩⟩) (fun c2 => ⟨_, rfl, by omega, fun _ => ?_, fun h => by omega⟩)⟩, fun h => by omega⟩)⟩⟩
    · rw [hs.2.2.1] at c
      rw [if_pos c] at q
      exact q
    · rw [hs.2.2.1] at c c2
      rw [if_neg (by rw [c]; decide), if_pos c2] at q
      exact q
    · rw [hs.2.2.1] at c c2
      rw [if_neg (show ¬ iq_f (g 24) ((t - n) % g 24 1) = true by rw [c]; decide), if_neg (show ¬ iq_f (g 24) ((t + n) % g 24 1) = true by rw [c2]; decide)] at q hne
      exact ih (n + 1) _ _ (by omega) (by omega) hne q
theorem cNearest {N : Nat} {xs : Nat → Int32} {Q : iq_T} {g : iq_I} {l : iq_J} {t : Int} (hs : iq_SR g l 23 24 25 0) (hd : -2147483648 ≤ t ∧ t ≤ 2147483647) (q : ∀ (g' : iq_I) (l' : iq_J), iq_KK g l g' l' → g' 0 0 = (aNearest (g 24) t).2 → Q (some (iq_i (aNearest (g 24) t).1)) g' l') : iq_P N xs 256 0 [some (iq_r 0), some (iq_i t), none, none, none] [] g l Q := by
  unfold aNearest at q
  have hp1 := hs.1.2.1
  refine B256_0 _ _ _ (sp77_23 hd (by omega) (fun a b => ⟨_, rfl, by omega, fun _ => ?_, fun h => by omega⟩) (fun a => ⟨_, rfl, by omega, fun h => by omega, fun _ => sp44 ⟨_, rfl, ?_⟩⟩))
  · rw [if_pos ⟨a, b⟩] at q
    have hF := sf_nrF hs.1 (t := t) ⟨a, b⟩
    have hM := sf_nrM (P := g 24) (t := t) (g 24 1).toNat (60 - (g 24 1).toNat) 0 hF
    rw [show (g 24 1).toNat + (60 - (g 24 1).toNat) = 60 by omega] at hM
    refine sp256_p hs ⟨a, b⟩ 60 0 none none (by omega) (by omega) (by rw [hM]; exact hF) ?_
    rw [hM]
    exact q _ _ ((iq_KK.refl _ _).uz iq_sx00) (by simp [iq_uz])
  · rw [if_neg a] at q
    exact q _ _ ((iq_KK.refl _ _).uz iq_sx00) (by simp [iq_uz])
theorem sp257_p {N : Nat} {xs : Nat → Int32} {Q : iq_T} {g : iq_I} {l : iq_J} {P : Int → Int} {t : Int} (hp : iq_pb P) (e1 : g 78 1 = P 1) (h87 : ∀ t : Nat, t < 60 → g 87 t = if iq_f P t = true then iq_cn (iq_f P) t else -1) (ht : 0 ≤ t ∧ t < P 1) (k : Nat) : ∀ (n : Int) (d3 d4 : Option iq_V), 0 ≤ n → n + k = P 1 → ¬ sf_nr P t k n = -1 → Q (some (iq_i (sf_nr P t k n))) (iq_uz g 77 1 0) l → iq_P N xs 257 20 [some (iq_r 77), some (iq_i t), some (iq_i n), d3, d4] [] g l Q := by
  have hp1 := hp.2.1
  induction k with
  | zero => intro n d3 d4 _ _ h; exact (h rfl).elim
  | succ k ih =>
    intro n d3 d4 h1 h2 hne q
    rw [sf_nr] at hne q
    have a1 := Int.emod_nonneg (t - n) (show P 1 ≠ 0 by omega)
    have a2 := Int.emod_lt_of_pos (t - n) (show 0 < P 1 by omega)
    have b1 := Int.emod_nonneg (t + n) (show P 1 ≠ 0 by omega)
    have b2 := Int.emod_lt_of_pos (t + n) (show 0 < P 1 by omega)
    have hA := h87 ((t - n) % P 1).toNat (by omega)
    have hB := h87 ((t + n) % P 1).toNat (by omega)
    rw [Int.toNat_of_nonneg a1] at hA
    rw [Int.toNat_of_nonneg b1] at hB
    have cA := iq_cn_nonneg (iq_f P) ((t - n) % P 1).toNat
    have cB := iq_cn_nonneg (iq_f P) ((t + n) % P 1).toNat
    refine B257_p20_77 _ _ _ _ _ _ ⟨by omega, fun h => by omega, fun h => ?_⟩
    rw [e1]
    refine sp111 (by omega) (by omega) ⟨_, rfl, by omega, ?_⟩
    rw [e1]
    refine sp111 (by omega) (by omega) ⟨_, rfl, by omega, ?_⟩
    rw [hA, hB]
    rcases hb : iq_f P ((t - n) % P 1) with _ | _
    · rw [hb, if_neg (show ¬ (false = true) by decide)] at q hne
      rw [if_neg (show ¬ (false = true) by decide)]
      refine ⟨by omega, fun _ => ?_, fun h => by omega⟩
      rcases hc : iq_f P ((t + n) % P 1) with _ | _
      · rw [hc, if_neg (show ¬ (false = true) by decide)] at q hne
        rw [if_neg (show ¬ (false = true) by decide)]
        exact ⟨by omega, fun _ => ih (n + 1) _ _ (by omega) (by omega) hne q, fun h => by omega⟩
      · rw [hc, if_pos rfl] at q
        rw [if_pos rfl]
        exact ⟨by omega, fun h => by omega, fun _ => sp115 ⟨_, rfl, q⟩⟩
    · rw [hb, if_pos rfl] at q
      rw [if_pos rfl]
      exact ⟨by omega, fun h => by omega, fun _ => sp115 ⟨_, rfl, q⟩⟩
theorem mNearest {N : Nat} {xs : Nat → Int32} {Q : iq_T} {g : iq_I} {l : iq_J} {t : Int} (hs : iq_SR g l 23 24 25 0) (hd : -2147483648 ≤ t ∧ t ≤ 2147483647) (q : ∀ (g' : iq_I) (l' : iq_J), iq_KK g l g' l' → g' 0 0 = g 0 0 → g' 77 1 = (aNearest (g 24) t).2 → Q (some (iq_i (aNearest (g 24) t).1)) g' l') : iq_P N xs 257 0 [some (iq_r 77), some (iq_i t), none, none, none] [] g l Q := by
  unfold aNearest at q
  have hp1 := hs.1.2.1
  have e1 := hs.p78 1 (by omega) (by omega)
  refine B257_77 _ _ _ (sp158 hd (by omega) (fun a b => ⟨_, rfl, by omega, fun _ => sp114c hs (fun g' f1 f2 f3 => ⟨rfl, ?_⟩), fun h => by omega⟩) (fun a => ⟨_, rfl, by omega, fun h => by omega, fun _ => sp98 ⟨_, rfl, ?_⟩⟩))
  · rw [e1] at b
    rw [if_pos ⟨a, b⟩] at q
    have h0 : g' 0 0 = g 0 0 := congrFun (f1 0 (by decide) (.inl (by decide))) 0
    have h78 : g' 78 = g 78 := f1 78 (by decide) (.inl (by decide))
    refine sp257_p hs.1 (by rw [h78, e1]) f3.2.2.1 ⟨a, b⟩ (g 24 1).toNat 0 none none (by omega) (by omega) (sf_nrF hs.1 ⟨a, b⟩) ?_
    exact q _ _ ((iq_KKl f1 f2).uz iq_sx771) (by simp [iq_uz, h0]) (by simp [iq_uz])
  · rw [e1] at a
    rw [if_neg a] at q
    exact q _ _ ((iq_KK.refl _ _).uz iq_sx771) (by simp [iq_uz]) (by simp [iq_uz])
