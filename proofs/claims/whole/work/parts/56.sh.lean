/-! Shapes. -/
theorem iq_cn_split (f : Int → Bool) (a b : Nat) : iq_cn f (a + b) = iq_cn f a + iq_cn (fun i => f (a + i)) b := by
  induction b with
  | zero => simp [iq_cn]
  | succ b ih =>
    rw [show a + (b + 1) = (a + b) + 1 by omega, iq_cn, iq_cn, ih, show ((a + b : Nat) : Int) = (a : Int) + b by omega]
    omega
theorem iq_cn_rows (f : Int → Bool) (w n : Nat) : iq_cn f (w * n) = iq_sm (fun x => iq_cn (fun y => f (w * x + y)) w) n := by
  induction n with
  | zero => simp [iq_cn, iq_sm]
  | succ n ih =>
    rw [show w * (n + 1) = w * n + w by rw [Nat.mul_add]; omega, iq_cn_split, ih, iq_sm]
    congr 1
def sf_pr (P : Int → Int) (k : Int) : Bool := sf_ex (fun d => sf_ex (fun e => decide (d < e ∧ iq_t P e - iq_t P d = k)) (iq_m P).toNat) (iq_m P).toNat
theorem sf_pri {P : Int → Int} {k : Int} : sf_pr P k = true ↔ ∃ d e, 0 ≤ d ∧ d < e ∧ e < iq_m P ∧ iq_t P e - iq_t P d = k := by
  unfold sf_pr
  rw [sf_exi]
  constructor
  · rintro ⟨d, a, b, c⟩
    obtain ⟨e, a2, b2, c2⟩ := (sf_exi _ _).mp c
    simp only [decide_eq_true_eq] at c2
    exact ⟨d, e, a, c2.1, by omega, c2.2⟩
  · rintro ⟨d, e, a, b, c, h⟩
    exact ⟨d, a, by omega, (sf_exi _ _).mpr ⟨e, by omega, by omega, by simp only [decide_eq_true_eq]; exact ⟨b, h⟩⟩⟩
def sf_tr (P : Int → Int) (k : Int) : Bool := sf_ex (fun d => sf_ex (fun e => sf_ex (fun f => decide (d < e ∧ e < f ∧ 60 * (iq_t P e - iq_t P d) + (iq_t P f - iq_t P d) = k)) (iq_m P).toNat) (iq_m P).toNat) (iq_m P).toNat
theorem sf_tri {P : Int → Int} {k : Int} : sf_tr P k = true ↔ ∃ d e f, 0 ≤ d ∧ d < e ∧ e < f ∧ f < iq_m P ∧ 60 * (iq_t P e - iq_t P d) + (iq_t P f - iq_t P d) = k := by
  unfold sf_tr
  rw [sf_exi]
  constructor
  · rintro ⟨d, a, b, c⟩
    obtain ⟨e, a2, b2, c2⟩ := (sf_exi _ _).mp c
    obtain ⟨f, a3, b3, c3⟩ := (sf_exi _ _).mp c2
    simp only [decide_eq_true_eq] at c3
    exact ⟨d, e, f, a, c3.1, c3.2.1, by omega, c3.2.2⟩
  · rintro ⟨d, e, f, a, b, c, h, i⟩
    exact ⟨d, a, by omega, (sf_exi _ _).mpr ⟨e, by omega, by omega, (sf_exi _ _).mpr ⟨f, by omega, by omega, by simp only [decide_eq_true_eq]; exact ⟨b, c, i⟩⟩⟩⟩
theorem sf_prR {P : Int → Int} (hp : iq_pb P) {k : Int} (h : sf_pr P k = true) : 0 < k ∧ k < 60 := by
  obtain ⟨d, e, a, b, c, f⟩ := sf_pri.mp h
  have hp1 := hp.2.1
  have r := iq_trg hp
  have h1 := r.2.1 d a (by omega)
  have h2 := r.2.1 e (by omega) c
  have h3 := r.2.2 d e a b c
  omega
def aShapes (P : Int → Int) (n : Int) : Int × Int := if n < 1 ∨ 3 < n then (-1, 1) else if n = 1 then (1, 0) else if n = 2 then (iq_cn (sf_pr P) 64, 0) else (iq_cn (sf_tr P) 3600, 0)
/-! the class -/
theorem sp292_i {N : Nat} {xs : Nat → Int32} {Q : iq_T} {g : iq_I} {l : iq_J} (hr : iq_RG g) {d : Int} (hd : 0 ≤ d ∧ d < g 31 3) (q : ∀ y, (∀ t, iq_tb y t = true ↔ ∃ a b, 0 ≤ a ∧ a < b ∧ b < g 31 3 ∧ a < d + 1 ∧ g 32 b - g 32 a = t) → iq_P N xs 292 4 [some (iq_r 31), some (iq_l y), none, some (iq_i (d + 1)), some (iq_i (g 31 3))] [] g l Q) (n : Nat) : ∀ (x : Int64) (k : Int), d < k → k + n = g 31 3 → (∀ t, iq_tb x t = true ↔ ∃ a b, 0 ≤ a ∧ a < b ∧ b < g 31 3 ∧ (a < d ∨ (a = d ∧ b < k)) ∧ g 32 b - g 32 a = t) → iq_P N xs 292 17 [some (iq_r 31), some (iq_l x), none, some (iq_i d), some (iq_i k)] [] g l Q := by
  have hr' := hr
  obtain ⟨r1, r2, r3⟩ := hr
  induction n with
  | zero =>
    intro x k h1 h2 hx
    rw [show k = g 31 3 by omega] at hx ⊢
    refine B292_p17_31 _ _ _ _ _ ⟨by omega, fun _ => q x (fun t => ?_), fun h => by omega⟩
    rw [hx t]
    constructor
    · rintro ⟨a, b, c, e, f, h, i⟩; exact ⟨a, b, c, e, f, by omega, i⟩
    · rintro ⟨a, b, c, e, f, h, i⟩; exact ⟨a, b, c, e, f, by omega, i⟩
  | succ n ih =>
    intro x k h1 h2 hx
    have a1 := r1.2.1 d hd.1 hd.2
    have a2 := r1.2.1 k (by omega) (by omega)
    have a3 := r1.2.2 d k hd.1 (by omega) (by omega)
    refine B292_p17_31 _ _ _ _ _ ⟨by omega, fun h => by omega, fun _ => sp138 hr' ⟨by omega, by omega⟩ ⟨_, rfl, sp138 hr' hd ⟨_, rfl, sp6 (by omega) ⟨_, rfl, ih _ _ (by omega) (by omega) (fun t => ?_)⟩⟩⟩⟩
    rw [iq_tb_or, Bool.or_eq_true, hx t, iq_tbof]
    simp only [Bool.and_eq_true, decide_eq_true_eq]
    constructor
    · rintro (⟨a, b, c, e, f, h, i⟩ | ⟨-, c⟩)
      · exact ⟨a, b, c, e, f, by omega, i⟩
      · exact ⟨d, k, hd.1, h1, by omega, by omega, c.symm⟩
    · rintro ⟨a, b, c, e, f, h, i⟩
      by_cases z : a = d ∧ b = k
      · right
        rw [z.1, z.2] at i
        exact ⟨⟨by omega, by omega⟩, i.symm⟩
      · left
        exact ⟨a, b, c, e, f, by omega, i⟩
theorem sp292_p {N : Nat} {xs : Nat → Int32} {Q : iq_T} {g : iq_I} {l : iq_J} (hr : iq_RG g) (q : ∀ y, (∀ t, iq_tb y t = true ↔ ∃ a b, 0 ≤ a ∧ a < b ∧ b < g 31 3 ∧ g 32 b - g 32 a = t) → Q (some (iq_i (iq_cn (iq_tb y) 64))) g l) (n : Nat) : ∀ (x : Int64) (d : Int) (d4 : Option iq_V), 0 ≤ d → d + n = g 31 3 → (∀ t, iq_tb x t = true ↔ ∃ a b, 0 ≤ a ∧ a < b ∧ b < g 31 3 ∧ a < d ∧ g 32 b - g 32 a = t) → iq_P N xs 292 4 [some (iq_r 31), some (iq_l x), none, some (iq_i d), d4] [] g l Q := by
  have r2 := hr.2.1
  induction n with
  | zero =>
    intro x d d4 h1 h2 hx
    refine B292_p4_31 _ _ _ _ _ ⟨by omega, fun _ => sp88 ⟨_, rfl, q x (fun t => ?_)⟩, fun h => by omega⟩
    rw [hx t]
    constructor
    · rintro ⟨a, b, c, e, f, h, i⟩; exact ⟨a, b, c, e, f, i⟩
    · rintro ⟨a, b, c, e, f, i⟩; exact ⟨a, b, c, e, f, by omega, i⟩
  | succ n ih =>
    intro x d d4 h1 h2 hx
    refine B292_p4_31 _ _ _ _ _ ⟨by omega, fun h => by omega, fun _ => sp292_i hr ⟨h1, by omega⟩ (fun y hy => ih y (d + 1) _ (by omega) (by omega) hy) (g 31 3 - (d + 1)).toNat x (d + 1) (by omega) (by omega) (fun t => ?_)⟩
    rw [hx t]
    constructor
    · rintro ⟨a, b, c, e, f, h, i⟩; exact ⟨a, b, c, e, f, by omega, i⟩
    · rintro ⟨a, b, c, e, f, h, i⟩; exact ⟨a, b, c, e, f, by omega, i⟩
theorem sp294_c {N : Nat} {xs : Nat → Int32} {Q : iq_T} {g : iq_I} {l : iq_J} (q : ∀ l' : iq_J, (∀ j, ¬ j = 39 → l' j = l j) → (∀ k, 0 ≤ k → k < 60 → l' 39 k = 0) → iq_P N xs 294 26 [some (iq_r 0), some (iq_r 31), some (iq_i 0), none, none] [] g l' Q) (n : Nat) : ∀ (k : Nat) (l1 : iq_J), k + n = 60 → (∀ j, ¬ j = 39 → l1 j = l j) → (∀ i : Int, 0 ≤ i → i < k → l1 39 i = 0) → iq_P N xs 294 2 [some (iq_r 0), some (iq_r 31), some (iq_i k), none, none] [] g l1 Q := by
  induction n with
  | zero =>
    intro k l1 h a b
    exact B294_p2_0_31 _ _ _ ⟨by omega, fun _ => q l1 a (fun i x y => b i x (by omega)), fun h => by omega⟩
  | succ n ih =>
    intro k l1 h a b
    refine B294_p2_0_31 _ _ _ ⟨by omega, fun h => by omega, fun _ => ⟨by omega, ih (k + 1) _ (by omega) (fun j hj => ?_) (fun i x y => ?_)⟩⟩
    · rw [← a j hj]; funext i; simp [iq_uz, hj]
    · by_cases e : i = k
      · rw [e]; simp [iq_uz]
      · rw [← b i x (by omega)]; simp [iq_uz, e]
/-- what stands in the class's table of triples -/
def sf_TL (T : Int → Int) (m : Int) (l : iq_J) (R : Int → Int → Prop) : Prop := ∀ x, 0 ≤ x → x < 60 → ∀ t, iq_tb (l 39 x) t = true ↔ ∃ a b c, 0 ≤ a ∧ a < b ∧ b < c ∧ c < m ∧ R a b ∧ T b - T a = x ∧ T c - T a = t
theorem sf_TL.congr {T : Int → Int} {m : Int} {l : iq_J} {R R' : Int → Int → Prop} (h : sf_TL T m l R) (e : ∀ a b, 0 ≤ a → a < b → b < m → (R a b ↔ R' a b)) : sf_TL T m l R' := by
  intro x hx1 hx2 t
  rw [h x hx1 hx2 t]
  constructor
  · rintro ⟨a, b, c, h1, h2, h3, h4, h5, h6⟩; exact ⟨a, b, c, h1, h2, h3, h4, (e a b h1 h2 (by omega)).mp h5, h6⟩
  · rintro ⟨a, b, c, h1, h2, h3, h4, h5, h6⟩; exact ⟨a, b, c, h1, h2, h3, h4, (e a b h1 h2 (by omega)).mpr h5, h6⟩
theorem sp294_i {N : Nat} {xs : Nat → Int32} {Q : iq_T} {g : iq_I} {l : iq_J} (hr : iq_RG g) {d : Int} (hd : 0 ≤ d ∧ d < g 31 3) (q : ∀ (l' : iq_J) (d3 d4 : Option iq_V), (∀ j, ¬ j = 39 → l' j = l j) → sf_TL (g 32) (g 31 3) l' (fun a _ => a < d + 1) → iq_P N xs 294 26 [some (iq_r 0), some (iq_r 31), some (iq_i (d + 1)), d3, d4] [] g l' Q) (n : Nat) : ∀ (l1 : iq_J) (k : Int) (d4 : Option iq_V), d < k → k + n = g 31 3 → (∀ j, ¬ j = 39 → l1 j = l j) → sf_TL (g 32) (g 31 3) l1 (fun a b => a < d ∨ (a = d ∧ b < k)) → iq_P N xs 294 38 [some (iq_r 0), some (iq_r 31), some (iq_i d), some (iq_i k), d4] [] g l1 Q := by
  have hr' := hr
  obtain ⟨r1, r2, r3⟩ := hr
  induction n with
  | zero =>
    intro l1 k d4 h1 h2 hl hx
    exact B294_p38_0_31 _ _ _ _ _ ⟨by omega, fun _ => q l1 _ _ hl (hx.congr (fun a b x y z => by omega)), fun h => by omega⟩
  | succ n ih =>
    intro l1 k d4 h1 h2 hl hx
    have a1 := r1.2.1 d hd.1 hd.2
    have a2 := r1.2.1 k (by omega) (by omega)
    have a3 := r1.2.2 d k hd.1 (by omega) (by omega)
    refine B294_p38_0_31 _ _ _ _ _ ⟨by omega, fun h => by omega, fun _ => sp138 hr' ⟨by omega, by omega⟩ ⟨_, rfl, sp138 hr' hd ⟨_, rfl, by omega, fun h => by omega, fun _ => ⟨by omega, fun h => by omega, fun _ => ⟨by omega, sp293 hr' hd ⟨by omega, by omega⟩ (fun y hy => ⟨_, rfl, by omega, ih _ _ _ (by omega) (by omega) (fun j hj => ?_) (fun x hx1 hx2 t => ?_)⟩)⟩⟩⟩⟩⟩
    · rw [← hl j hj]; funext i; simp [iq_uz, hj]
    · by_cases e : x = g 32 k - g 32 d
      · rw [e, show (iq_uz l1 39 (g 32 k - g 32 d) (l1 39 (g 32 k - g 32 d) ||| y)) 39 (g 32 k - g 32 d) = (l1 39 (g 32 k - g 32 d) ||| y) by simp [iq_uz], iq_tb_or, Bool.or_eq_true, hx _ (by omega) (by omega) t, hy t]
        constructor
        · rintro (⟨a, b, c, h1, h2, h3, h4, h5, h6⟩ | ⟨c, h1', h2', h3'⟩)
          · exact ⟨a, b, c, h1, h2, h3, h4, by omega, h6⟩
          · exact ⟨d, k, c, hd.1, h1, h1', h2', by omega, rfl, h3'⟩
        · rintro ⟨a, b, c, h1, h2, h3, h4, h5, h6⟩
          by_cases z : a = d ∧ b = k
          · right
            exact ⟨c, by omega, h4, by rw [← z.1]; exact h6.2⟩
          · left
            exact ⟨a, b, c, h1, h2, h3, h4, by omega, h6⟩
      · rw [show (iq_uz l1 39 (g 32 k - g 32 d) (l1 39 (g 32 k - g 32 d) ||| y)) 39 x = l1 39 x by simp [iq_uz, e], hx x hx1 hx2 t]
        constructor
        · rintro ⟨a, b, c, h1, h2, h3, h4, h5, h6⟩
          exact ⟨a, b, c, h1, h2, h3, h4, by omega, h6⟩
        · rintro ⟨a, b, c, h1, h2, h3, h4, h5, h6⟩
          refine ⟨a, b, c, h1, h2, h3, h4, ?_, h6⟩
          by_cases z : a = d ∧ b = k
          · rw [z.1, z.2] at h6; exact (e h6.1.symm).elim
          · omega
theorem sp294_o {N : Nat} {xs : Nat → Int32} {Q : iq_T} {g : iq_I} {l : iq_J} (hr : iq_RG g) (q : ∀ (l' : iq_J) (d4 : Option iq_V), (∀ j, ¬ j = 39 → l' j = l j) → sf_TL (g 32) (g 31 3) l' (fun _ _ => True) → iq_P N xs 294 106 [some (iq_r 0), some (iq_r 31), some (iq_i 0), some (iq_i 0), d4] [] g l' Q) (n : Nat) : ∀ (l1 : iq_J) (d : Int) (d3 d4 : Option iq_V), 0 ≤ d → d + n = g 31 3 → (∀ j, ¬ j = 39 → l1 j = l j) → sf_TL (g 32) (g 31 3) l1 (fun a _ => a < d) → iq_P N xs 294 26 [some (iq_r 0), some (iq_r 31), some (iq_i d), d3, d4] [] g l1 Q := by
  have r2 := hr.2.1
  induction n with
  | zero =>
    intro l1 d d3 d4 h1 h2 hl hx
    exact B294_p26_0_31 _ _ _ _ _ ⟨by omega, fun _ => q l1 _ hl (hx.congr (fun a b x y z => ⟨fun _ => trivial, fun _ => by omega⟩)), fun h => by omega⟩
  | succ n ih =>
    intro l1 d d3 d4 h1 h2 hl hx
    exact B294_p26_0_31 _ _ _ _ _ ⟨by omega, fun h => by omega, fun _ => sp294_i hr ⟨h1, by omega⟩ (fun l' d3 d4 hl' hx' => ih l' (d + 1) d3 d4 (by omega) (by omega) hl' hx') (g 31 3 - (d + 1)).toNat l1 (d + 1) _ (by omega) (by omega) hl (hx.congr (fun a b x y z => by omega))⟩
theorem sp294_s {N : Nat} {xs : Nat → Int32} {Q : iq_T} {g : iq_I} {l : iq_J} (q : Q (some (iq_i (iq_sm (fun x => iq_cn (iq_tb (l 39 x)) 64) 60))) g l) (n : Nat) : ∀ (k : Nat) (d4 : Option iq_V), k + n = 60 → iq_P N xs 294 106 [some (iq_r 0), some (iq_r 31), some (iq_i (iq_sm (fun x => iq_cn (iq_tb (l 39 x)) 64) k)), some (iq_i k), d4] [] g l Q := by
  induction n with
  | zero =>
    intro k d4 h
    rw [show k = 60 by omega]
    exact B294_p106_0_31 _ _ _ _ _ ⟨by omega, fun _ => q, fun h => by omega⟩
  | succ n ih =>
    intro k d4 h
    have nx := fun d4 => ih (k + 1) d4 (by omega)
    rw [iq_sm] at nx
    exact B294_p106_0_31 _ _ _ _ _ ⟨by omega, fun h => by omega, fun _ => ⟨by omega, sp88 ⟨_, rfl, nx _⟩⟩⟩
theorem iq_KK39 {g : iq_I} {l l' : iq_J} (h : ∀ j, ¬ j = 39 → l' j = l j) : iq_KK g l g l' := by
  refine ⟨rfl, iq_co_of (fun j k hb => ?_), ?_, ?_, ?_, ?_⟩
  · rw [h j (fun e => by rw [e] at hb; simp [iq_sx] at hb)]
  · rw [h 0 (by decide)]
  · rw [h 0 (by decide)]
  · rw [h 77 (by decide)]
  · rw [h 77 (by decide)]
theorem sp294 {N : Nat} {xs : Nat → Int32} {Q : iq_T} {g : iq_I} {l : iq_J} {P : Int → Int} (hp : iq_pb P) (h3 : g 31 3 = iq_m P) (ht : ∀ d, 0 ≤ d → d < iq_m P → g 32 d = iq_t P d) (hr : iq_RG g) (q : ∀ l' : iq_J, (∀ j, ¬ j = 39 → l' j = l j) → Q (some (iq_i (iq_cn (sf_tr P) 3600))) g l') : iq_P N xs 294 0 [some (iq_r 0), some (iq_r 31), none, none, none] [] g l Q := by
  have hm := iq_mR hp
  have hp1 := hp.2.1
  refine B294_0_31 _ _ (sp294_c (l := l) (fun l' hl hz => sp294_o hr (fun l2 d4 hl2 hx => ?_) (g 31 3).toNat l' 0 none none (by omega) (by omega) hl (fun x hx1 hx2 t => ?_)) 60 0 l (by omega) (fun _ _ => rfl) (fun i a b => by omega))
  · refine sp294_s (l := l2) ?_ 60 0 d4 (by omega)
    have q2 := q l2 hl2
    rw [show 3600 = 60 * 60 by omega, iq_cn_rows] at q2
    rw [iq_sm_congr (h := fun x => iq_cn (fun y => sf_tr P ((60 : Nat) * x + y)) 60) (fun x a b => ?_)]
    · exact q2
    · have rg := iq_trg hp
      have bR : ∀ t, iq_tb (l2 39 x) t = true → t < 60 := by
        intro t htt
        obtain ⟨a', b', c', h1, h2, h4, h5, h6, h7, h8⟩ := (hx x a (by omega) t).mp htt
        rw [ht a' h1 (by omega), ht c' (by omega) (by omega)] at h8
        have := rg.2.1 a' h1 (by omega)
        have := rg.2.1 c' (by omega) (by omega)
        omega
      rw [iq_cn_ext (a := 60) (b := 64) (by omega) (fun i x1 x2 => ?_)]
      · refine iq_cn_congr (fun t x1 x2 => iq_beq ?_)
        rw [hx x a (by omega) t, sf_tri]
        constructor
        · rintro ⟨a', b', c', h1, h2, h4, h5, h6, h7, h8⟩
          rw [ht a' h1 (by omega), ht b' (by omega) (by omega)] at h7
          rw [ht a' h1 (by omega), ht c' (by omega) (by omega)] at h8
          exact ⟨a', b', c', h1, h2, h4, by omega, by omega⟩
        · rintro ⟨a', b', c', h1, h2, h4, h5, h6⟩
          have s1 := rg.2.1 a' h1 (by omega)
          have s2 := rg.2.1 b' (by omega) (by omega)
          have s3 := rg.2.1 c' (by omega) (by omega)
          have s4 := rg.2.2 a' c' (by omega) (by omega) (by omega)
          refine ⟨a', b', c', h1, h2, h4, by omega, trivial, ?_, ?_⟩
          · rw [ht a' h1 (by omega), ht b' (by omega) (by omega)]; omega
          · rw [ht a' h1 (by omega), ht c' (by omega) (by omega)]; omega
      · rcases hb : iq_tb (l2 39 x) i with _ | _
        · rfl
        · have := bR i hb; omega
  · rw [hz x hx1 hx2, iq_tb_0]
    constructor
    · intro h; cases h
    · rintro ⟨a, b, c, h1, h2, h3, h4, h5, h6⟩; omega
theorem sp292 {N : Nat} {xs : Nat → Int32} {Q : iq_T} {g : iq_I} {l : iq_J} {P : Int → Int} (hp : iq_pb P) (h3 : g 31 3 = iq_m P) (ht : ∀ d, 0 ≤ d → d < iq_m P → g 32 d = iq_t P d) (hr : iq_RG g) (q : Q (some (iq_i (iq_cn (sf_pr P) 64))) g l) : iq_P N xs 292 0 [some (iq_r 31), none, none, none, none] [] g l Q := by
  have hm := iq_mR hp
  refine B292_31 _ _ (sp292_p hr (fun y hy => ?_) (g 31 3).toNat 0 0 none (by omega) (by omega) (fun t => ?_))
  · rw [iq_cn_congr (h := sf_pr P) (fun t _ _ => iq_beq ?_)]
    · exact q
    · rw [hy t, sf_pri]
      constructor
      · rintro ⟨a, b, c, e, f, i⟩
        rw [ht a c (by omega), ht b (by omega) (by omega)] at i
        exact ⟨a, b, c, e, by omega, i⟩
      · rintro ⟨a, b, c, e, f, i⟩
        refine ⟨a, b, c, e, by omega, ?_⟩
        rw [ht a c (by omega), ht b (by omega) (by omega)]
        exact i
  · rw [iq_tb_0]
    constructor
    · intro h; cases h
    · rintro ⟨a, b, c, e, f, h, i⟩; omega
theorem cShapes {N : Nat} {xs : Nat → Int32} {Q : iq_T} {g : iq_I} {l : iq_J} {n : Int} (hs : iq_SR g l 23 24 25 0) (hn : -2147483648 ≤ n ∧ n ≤ 2147483647) (q : ∀ (g' : iq_I) (l' : iq_J), iq_KK g l g' l' → g' 0 0 = (aShapes (g 24) n).2 → Q (some (iq_i (aShapes (g 24) n).1)) g' l') : iq_P N xs 295 0 [some (iq_r 0), some (iq_i n), none] [] g l Q := by
  unfold aShapes at q
  refine B295_0 _ _ _ ⟨by omega, fun c => ?_, fun c => ⟨by omega, fun d => ⟨by omega, fun e => sp137 hs (fun g' e1 e2 e3 e4 e5 => B295_q31_31 _ _ _ ⟨by omega, fun f => ?_, fun f => ?_⟩), fun e => ?_⟩, fun d => ?_⟩⟩
  · rw [if_pos (.inl c)] at q
    exact sp44 ⟨_, rfl, q _ _ ((iq_KK.refl _ _).uz iq_sx00) (by simp [iq_uz])⟩
  · rw [if_neg (by omega), if_neg e, if_neg f] at q
    exact sp294 hs.1 e3 e4 e5 (fun l' hl => ⟨_, rfl, sp90 ⟨_, rfl, q _ _ (((iq_KKr e1).trans (iq_KK39 hl)).uz iq_sx00) (by simp [iq_uz])⟩⟩)
  · rw [if_neg (by omega), if_neg e, if_pos f] at q
    exact sp292 hs.1 e3 e4 e5 ⟨_, rfl, sp90 ⟨_, rfl, q _ _ ((iq_KKr e1).uz iq_sx00) (by simp [iq_uz])⟩⟩
  · rw [if_neg (by omega), if_pos e] at q
    exact sp90 ⟨_, rfl, q _ _ ((iq_KK.refl _ _).uz iq_sx00) (by simp [iq_uz])⟩
  · rw [if_pos (.inr d)] at q
    exact sp44 ⟨_, rfl, q _ _ ((iq_KK.refl _ _).uz iq_sx00) (by simp [iq_uz])⟩
