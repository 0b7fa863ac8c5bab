/-! Guesses. -/
theorem sf_cnsub {D f : Int → Bool} (n : Nat) : iq_cn (fun t => D t && f t) n ≤ iq_cn f n ∧ (iq_cn f n ≤ iq_cn (fun t => D t && f t) n → ∀ t : Int, 0 ≤ t → t < n → f t = true → D t = true) := by
  induction n with
  | zero => exact ⟨by simp [iq_cn], fun _ t a b => by omega⟩
  | succ n ih =>
    obtain ⟨i1, i2⟩ := ih
    rw [iq_cn, iq_cn]
    rcases hf : f n with _ | _
    · simp only [Bool.and_false]
      refine ⟨by simp; omega, fun h t a b c => ?_⟩
      by_cases e : t = n
      · rw [e, hf] at c; cases c
      · exact i2 (by simp at h; omega) t a (by omega) c
    · rcases hd : D n with _ | _
      · refine ⟨by simp; omega, fun h => by simp at h; omega⟩
      · refine ⟨by simp; omega, fun h t a b c => ?_⟩
        by_cases e : t = n
        · rw [e]; exact hd
        · exact i2 (by simp at h; omega) t a (by omega) c
def sf_hit (P : Int → Int) (S : Int64) (G r : Int) : Bool := decide (iq_cn (iq_tb S) 64 ≤ sf_fit P S G r)
theorem sf_hiti {P : Int → Int} {S : Int64} {G r : Int} : sf_hit P S G r = true ↔ ∀ t, 0 ≤ t → t < 64 → iq_tb S t = true → sf_D P G r t = true := by
  unfold sf_hit sf_fit
  rw [decide_eq_true_eq]
  constructor
  · intro h t a b c
    exact (sf_cnsub 64).2 h t a (by omega) c
  · intro h
    rw [iq_cn_congr (f := iq_tb S) (h := fun t => sf_D P G r t && iq_tb S t) (fun t a b => ?_)]
    · omega
    · rcases hb : iq_tb S t with _ | _
      · simp
      · simp [h t a (by omega) hb]
theorem sf_hitc {P : Int → Int} {S x : Int64} {G r : Int} (hx : ∀ t, iq_tb x t = sf_D P G r t) : S &&& (x ^^^ Int64.ofNat 18446744073709551615) = 0 ↔ sf_hit P S G r = true := by
  rw [sf_hiti, show Int64.ofNat 18446744073709551615 = -1 by decide]
  have key : ∀ t, 0 ≤ t → t < 64 → iq_tb (S &&& (x ^^^ -1)) t = (iq_tb S t && !sf_D P G r t) := by
    intro t a b
    rw [iq_tb_and, iq_tb_xor, iq_tb_m1 a b, hx t]
    simp
  constructor
  · intro h t a b c
    have k := key t a b
    rw [h, iq_tb_0, c] at k
    rcases hd : sf_D P G r t with _ | _
    · rw [hd] at k; cases k
    · rfl
  · intro h
    refine iq_tb_ext (fun t a b => ?_)
    rw [key t a b, iq_tb_0]
    rcases hb : iq_tb S t with _ | _
    · rfl
    · rw [h t a b hb]; rfl
theorem sf_exi (f : Int → Bool) (n : Nat) : sf_ex f n = true ↔ ∃ r : Int, 0 ≤ r ∧ r < n ∧ f r = true := by
  induction n with
  | zero =>
    rw [sf_ex]
    constructor
    · intro h; cases h
    · rintro ⟨r, a, b, c⟩; omega
  | succ n ih =>
    rw [sf_ex, Bool.or_eq_true, ih]
    constructor
    · rintro (⟨r, a, b, c⟩ | c)
      · exact ⟨r, a, by omega, c⟩
      · exact ⟨n, by omega, by omega, c⟩
    · rintro ⟨r, a, b, c⟩
      by_cases e : r = n
      · right; rw [← e]; exact c
      · left; exact ⟨r, a, by omega, c⟩
/-- tones of the chains that hold all that sounds -/
def sf_U (P : Int → Int) (S : Int64) (G : Int) (n : Nat) (t : Int) : Bool := sf_ex (fun r => sf_hit P S G r && sf_D P G r t) n
def sf_gs (P : Int → Int) (S : Int64) (G : Int) : Bool := sf_ex (sf_hit P S G) (P 1).toNat
def sf_fu (P : Int → Int) (S : Int64) (G : Int) : Bool := decide (0 ≤ G) && decide (G < P 1) && sf_gs P S G
theorem sf_Uz {P : Int → Int} (hp : iq_pb P) {S x : Int64} {G : Int} (hx : ∀ t, iq_tb x t = sf_U P S G (P 1).toNat t) : ¬ x = 0 ↔ sf_gs P S G = true := by
  have hp1 := hp.2.1
  have hp3 := hp.2.2.2.1
  unfold sf_gs
  rw [sf_exi]
  constructor
  · intro h
    refine Classical.byContradiction (fun hn => h (iq_tb_ext (fun t a b => ?_)))
    rw [hx t, iq_tb_0]
    rcases hb : sf_U P S G (P 1).toNat t with _ | _
    · rfl
    · obtain ⟨r, a, b, c⟩ := (sf_exi _ _).mp hb
      rw [Bool.and_eq_true] at c
      exact (hn ⟨r, a, b, c.1⟩).elim
  · rintro ⟨r, a, b, c⟩ hz
    have h0 : sf_D P G r (iq_ch (P 1) (P 4) G r 0) = true := iq_dgi.mpr ⟨0, by omega, by omega, rfl⟩
    have := hx (iq_ch (P 1) (P 4) G r 0)
    rw [hz, iq_tb_0] at this
    have h1 : sf_U P S G (P 1).toNat (iq_ch (P 1) (P 4) G r 0) = true := (sf_exi _ _).mpr ⟨r, a, b, by rw [Bool.and_eq_true]; exact ⟨c, h0⟩⟩
    rw [h1] at this; cases this
def aGuesses (P : Int → Int) (S : Int64) : Int := iq_cn (sf_fu P S) (P 1).toNat
theorem aGuessesR {P : Int → Int} (hp : iq_pb P) (S : Int64) : 0 ≤ aGuesses P S ∧ aGuesses P S ≤ P 1 := by
  have h := iq_cn_nonneg (sf_fu P S) (P 1).toNat
  have hp1 := hp.2.1
  unfold aGuesses
  omega
theorem sf_fu64 {P : Int → Int} (hp : iq_pb P) (S : Int64) : iq_cn (sf_fu P S) 64 = aGuesses P S := by
  have hp1 := hp.2.1
  refine iq_cn_ext (by omega) (fun i a b => ?_)
  unfold sf_fu
  rw [decide_eq_false (show ¬ i < P 1 by omega)]
  simp
/-! the class -/
theorem sp262_p {N : Nat} {xs : Nat → Int32} {Q : iq_T} {g : iq_I} {l : iq_J} {y : Int64} {G : Int} (hs : iq_SR g l 23 24 25 0) (hy : ∀ t, iq_tb y t = true ↔ ∃ j, 0 ≤ j ∧ j < g 24 3 ∧ iq_ch (g 24 1) (g 24 4) G 0 j = t) (q : ∀ x : Int64, (∀ t, iq_tb x t = sf_U (g 24) (l 23 3) G (g 24 1).toNat t) → Q (some (iq_l x)) g l) (n : Nat) : ∀ (r : Nat) (x : Int64) (d7 : Option iq_V), (r : Int) + n = g 24 1 → (∀ t, iq_tb x t = sf_U (g 24) (l 23 3) G r t) → iq_P N xs 262 18 [some (iq_r 23), some (iq_i G), some (iq_l y), none, some (iq_l x), none, some (iq_i r), d7, none] [] g l Q := by
  have hp1 := hs.1.2.1
  induction n with
  | zero =>
    intro r x d7 h hx
    rw [show (g 24 1).toNat = r by omega] at q
    exact B262_p18_23 _ _ _ _ _ _ _ (B80_23 _ _ ⟨_, rfl, by omega, fun h => q x hx, fun h => by omega⟩)
  | succ n ih =>
    intro r x d7 h hx
    refine B262_p18_23 _ _ _ _ _ _ _ (B80_23 _ _ ⟨_, rfl, by omega, fun h => by omega, fun h => B80_23 _ _ ⟨_, rfl, sp188 (by omega) ⟨_, rfl, iq_lcR _ _, ?_⟩⟩⟩)
    have ht : ∀ t, iq_tb ((iq_lsl y r ||| iq_lsr y (g 24 1 - r)) &&& (iq_of (g 24 1) - 1)) t = sf_D (g 24) G r t := fun t => sf_turn hs.1 (by omega) hy t
    rw [iq_lc0, sf_hitc ht]
    refine ⟨fun c => ?_, fun c => ?_⟩
    · refine ih (r + 1) (x ||| 0) _ (by omega) (fun t => ?_)
      have c : sf_hit (g 24) (l 23 3) G r = false := by
        rcases hb : sf_hit (g 24) (l 23 3) G r with _ | _
        · rfl
        · exact (c hb).elim
      rw [iq_tb_or, iq_tb_0, hx t]
      unfold sf_U
      rw [sf_ex, c]
      rfl
    · refine ih (r + 1) _ _ (by omega) (fun t => ?_)
      rw [iq_tb_or, ht t, hx t]
      unfold sf_U
      rw [sf_ex, c]
      rfl
theorem sp262 {N : Nat} {xs : Nat → Int32} {Q : iq_T} {g : iq_I} {l : iq_J} {G : Int} (hs : iq_SR g l 23 24 25 0) (hg : 0 ≤ G ∧ G < g 24 1) (q : ∀ x : Int64, (∀ t, iq_tb x t = sf_U (g 24) (l 23 3) G (g 24 1).toNat t) → Q (some (iq_l x)) g l) : iq_P N xs 262 0 [some (iq_r 23), some (iq_i G), none, none, none, none, none, none, none] [] g l Q := by
  have hp1 := hs.1.2.1
  have hp3 := hs.1.2.2.2.1
  refine B262_23 _ _ _ (sp135_23 (by omega) ⟨_, rfl, sp8_23 hs.1 hg (by omega) (by omega) (fun y hy => ⟨_, rfl, sp262_p hs hy q (g 24 1).toNat 0 0 none (by omega) (fun t => ?_)⟩)⟩)
  rw [iq_tb_0]; rfl
/-- the class's guesses are laid -/
def sf_GL (P : Int → Int) (S : Int64) (l : iq_J) (n : Int) : Prop := (∀ t, iq_tb (l 33 1) t = (decide (t < n) && sf_fu P S t)) ∧ (∀ G, 0 ≤ G → G < n → ∀ t, iq_tb (l 34 G) t = sf_U P S G (P 1).toNat t)
theorem iq_KKgl {g : iq_I} {l l' : iq_J} (h : ∀ j, ¬ j = 33 → ¬ j = 34 → l' j = l j) : iq_KK g l g l' := by
  refine ⟨rfl, iq_co_of (fun j k hb => ?_), ?_, ?_, ?_, ?_⟩
  · rw [h j (fun e => by rw [e] at hb; simp [iq_sx] at hb) (fun e => by rw [e] at hb; simp [iq_sx] at hb)]
  · rw [h 0 (by decide) (by decide)]
  · rw [h 0 (by decide) (by decide)]
  · rw [h 77 (by decide) (by decide)]
  · rw [h 77 (by decide) (by decide)]
theorem sp263_p {N : Nat} {xs : Nat → Int32} {Q : iq_T} {g : iq_I} {l : iq_J} (hs : iq_SR g l 23 24 25 0) (q : ∀ l' : iq_J, (∀ j, ¬ j = 33 → ¬ j = 34 → l' j = l j) → sf_GL (g 24) (l 23 3) l' (g 24 1) → Q none g l') (n : Nat) : ∀ (G : Nat) (l1 : iq_J), (G : Int) + n = g 24 1 → (∀ j, ¬ j = 33 → ¬ j = 34 → l1 j = l j) → sf_GL (g 24) (l 23 3) l1 G → iq_P N xs 263 7 [some (iq_r 33), some (iq_r 23), some (iq_i G)] [] g l1 Q := by
  have hp1 := hs.1.2.1
  induction n with
  | zero =>
    intro G l1 h hl hg
    rw [show g 24 1 = G by omega] at q
    exact B263_p7_33_23 _ _ _ (B80_23 _ _ ⟨_, rfl, by omega, fun _ => q l1 hl hg, fun h => by omega⟩)
  | succ n ih =>
    intro G l1 h hl hg
    have h23 := hl 23 (by decide) (by decide)
    refine B263_p7_33_23 _ _ _ (B80_23 _ _ ⟨_, rfl, by omega, fun h => by omega, fun _ => ⟨by omega, fun h => by omega, fun _ => sp262 (hs.keep (iq_KKgl hl)) (by omega) (fun x hx => ⟨_, rfl, by omega, by omega, iq_lcR _ _, ?_⟩)⟩⟩)
    rw [h23] at hx
    rw [show (iq_uz l1 34 (G : Int) x) 34 G = x by simp [iq_uz], iq_lc0]
    have hz := sf_Uz hs.1 hx
    obtain ⟨g1, g2⟩ := hg
    have k1 : ∀ v : Int64, (∀ j, ¬ j = 33 → ¬ j = 34 → (iq_uz (iq_uz l1 34 (G : Int) x) 33 1 v) j = l j) := by
      intro v j a b
      rw [← hl j a b]
      funext k
      simp [iq_uz, a, b]
    have k2 : ∀ v : Int64, (∀ t, iq_tb v t = (decide (t < ((G + 1 : Nat) : Int)) && sf_fu (g 24) (l 23 3) t)) → sf_GL (g 24) (l 23 3) (iq_uz (iq_uz l1 34 (G : Int) x) 33 1 v) ((G + 1 : Nat) : Int) := by
      intro v hv
      refine ⟨fun t => ?_, fun G' a b t => ?_⟩
      · rw [← hv t]; simp [iq_uz]
      · by_cases e : G' = G
        · rw [e, ← hx t]; simp [iq_uz]
        · rw [← g2 G' a (by omega) t]; simp [iq_uz, e]
    have hfu : sf_fu (g 24) (l 23 3) G = sf_gs (g 24) (l 23 3) G := by
      unfold sf_fu
      rw [decide_eq_true (show (0 : Int) ≤ (G : Int) by omega), decide_eq_true (show (G : Int) < g 24 1 by omega)]
      simp
    refine ⟨fun c => ih (G + 1) _ (by omega) (k1 _) (k2 _ (fun t => ?_)), fun c => sp6 (by omega) ⟨_, rfl, ih (G + 1) _ (by omega) (k1 _) (k2 _ (fun t => ?_))⟩⟩
    · have hF : sf_gs (g 24) (l 23 3) G = false := by
        rcases hb : sf_gs (g 24) (l 23 3) G with _ | _
        · rfl
        · exact (hz.mpr hb c).elim
      rw [iq_tb_or, iq_tb_0, g1 t, Bool.or_false]
      by_cases e : t = G
      · rw [e, hfu, hF]; simp
      · congr 1
        refine iq_beq ?_
        simp only [decide_eq_true_eq]
        omega
    · have hF := hz.mp c
      rw [iq_tb_or, iq_tbof, g1 t]
      by_cases e : t = G
      · rw [e, hfu, hF, decide_eq_true (show (0 : Int) ≤ (G : Int) by omega), decide_eq_true (show (G : Int) < 64 by omega)]
        simp
        try omega
      · rw [decide_eq_false e, Bool.and_false, Bool.or_false]
        congr 1
        refine iq_beq ?_
        simp only [decide_eq_true_eq]
        omega
theorem sp263 {N : Nat} {xs : Nat → Int32} {Q : iq_T} {g : iq_I} {l : iq_J} (hs : iq_SR g l 23 24 25 0) (q : ∀ l' : iq_J, (∀ j, ¬ j = 33 → ¬ j = 34 → l' j = l j) → sf_GL (g 24) (l 23 3) l' (g 24 1) → Q none g l') : iq_P N xs 263 0 [some (iq_r 33), some (iq_r 23), none] [] g l Q := by
  have hp1 := hs.1.2.1
  refine B263_33_23 _ _ (sp263_p hs q (g 24 1).toNat 0 _ (by omega) (fun j a b => ?_) ⟨fun t => ?_, fun G a b => by omega⟩)
  · funext k; simp [iq_uz, a]
  · rw [show (iq_uz l 33 1 (0 : Int64)) 33 1 = 0 by simp [iq_uz], iq_tb_0]
    refine iq_beq ?_
    unfold sf_fu
    simp only [Bool.and_eq_true, decide_eq_true_eq]
    constructor
    · intro e; cases e
    · intro e; omega
theorem sf_GLf {P : Int → Int} {S : Int64} {l : iq_J} (h : sf_GL P S l (P 1)) (t : Int) : iq_tb (l 33 1) t = sf_fu P S t := by
  rw [h.1 t]
  unfold sf_fu
  rcases hb : decide (t < P 1) with _ | _ <;> simp
theorem cGuesses {N : Nat} {xs : Nat → Int32} {Q : iq_T} {g : iq_I} {l : iq_J} (hs : iq_SR g l 23 24 25 0) (q : ∀ (g' : iq_I) (l' : iq_J), iq_KK g l g' l' → g' 0 0 = 0 → Q (some (iq_i (aGuesses (g 24) (l 23 3)))) g' l') : iq_P N xs 264 0 [some (iq_r 0)] [] g l Q := by
  refine B264_0 _ _ (sp263 hs (fun l' hl hG => ⟨rfl, sp88 ⟨_, rfl, sp90 ⟨_, rfl, ?_⟩⟩⟩))
  rw [iq_cn_congr (h := sf_fu (g 24) (l 23 3)) (fun t _ _ => sf_GLf hG t), sf_fu64 hs.1]
  exact q _ _ ((iq_KKgl hl).uz iq_sx00) (by simp [iq_uz])
def aGuessAt (P : Int → Int) (S : Int64) (k : Int) : Int × Int := if 0 ≤ k ∧ k < aGuesses P S then (iq_nth (sf_fu P S) 64 0 k, 0) else (-1, 6)
theorem sf_gu1 {P : Int → Int} (hp : iq_pb P) {S : Int64} {k : Int} (h1 : 0 ≤ k) (h2 : k < aGuesses P S) : 0 ≤ iq_nth (sf_fu P S) 64 0 k ∧ iq_nth (sf_fu P S) 64 0 k ≤ 60 := by
  have hp1 := hp.2.1
  obtain ⟨t, a, b, c⟩ := iq_cn_sur (sf_fu P S) (P 1).toNat k h1 h2
  have en : iq_nth (sf_fu P S) 64 0 k = t := iq_nth_shift (sf_fu P S) 64 0 k t (by omega) (by omega) b (show iq_cn (sf_fu P S) t - (0 : Int) = k by omega)
  omega
theorem sf_gu0 {P : Int → Int} (hp : iq_pb P) {S : Int64} {k : Int} (h : ¬ (0 ≤ k ∧ k < aGuesses P S)) : (if k < 0 then -1 else iq_nth (sf_fu P S) 64 0 k) = -1 := by
  by_cases c : k < 0
  · rw [if_pos c]
  · rw [if_neg c]
    refine iq_nth_none (sf_fu P S) 64 0 k ?_
    rw [show 0 + 64 = 64 by omega, sf_fu64 hp]
    show _ - (0 : Int) ≤ _
    omega
theorem cGuessAt {N : Nat} {xs : Nat → Int32} {Q : iq_T} {g : iq_I} {l : iq_J} {k : Int} (hs : iq_SR g l 23 24 25 0) (hk : -2147483648 ≤ k ∧ k ≤ 2147483647) (q : ∀ (g' : iq_I) (l' : iq_J), iq_KK g l g' l' → g' 0 0 = (aGuessAt (g 24) (l 23 3) k).2 → Q (some (iq_i (aGuessAt (g 24) (l 23 3) k).1)) g' l') : iq_P N xs 267 0 [some (iq_r 0), some (iq_i k)] [] g l Q := by
  unfold aGuessAt at q
  refine B267_0 _ _ _ (sp263 hs (fun l' hl hG => ⟨rfl, sp166 hk ⟨_, rfl, ?_⟩⟩))
  have k0 := iq_KKgl (g := g) hl
  have e : iq_pk (l' 33 1) k = if k < 0 then -1 else iq_nth (sf_fu (g 24) (l 23 3)) 64 0 k := by
    unfold iq_pk
    rw [show iq_tb (l' 33 1) = sf_fu (g 24) (l 23 3) from funext (sf_GLf hG)]
  rw [e]
  by_cases c : 0 ≤ k ∧ k < aGuesses (g 24) (l 23 3)
  · rw [if_pos c] at q
    rw [if_neg (by omega)]
    have hh := sf_gu1 hs.1 c.1 c.2
    exact sp167 (by omega) (fun h => by omega) (fun _ => ⟨_, rfl, q _ _ (k0.uz iq_sx00) (by simp [iq_uz])⟩)
  · rw [if_neg c] at q
    rw [sf_gu0 hs.1 c]
    exact sp167 (by omega) (fun _ => ⟨_, rfl, q _ _ (k0.uz iq_sx00) (by simp [iq_uz])⟩) (fun h => by omega)
