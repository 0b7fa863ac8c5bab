/-! What is kept, and what is scratch. -/
def iq_sx (j : Nat) (k : Int) : Bool :=
  (decide (j = 0) && (decide (k = 0) || decide (k = 1) || decide (k = 2))) || (decide (j = 10) && decide (2 ≤ k) && decide (k ≤ 6)) || (decide (12 ≤ j) && decide (j ≤ 22)) || (decide (31 ≤ j) && decide (j ≤ 39)) || (decide (j = 40) && (decide (k = 2) || decide (k = 3) || decide (k = 4) || decide (k = 7))) || decide (j = 41) || decide (j = 42) || (decide (44 ≤ j) && decide (j ≤ 50)) || (decide (j = 77) && !(decide (k = 9) || decide (k = 15) || decide (k = 16) || decide (k = 47) || decide (k = 54) || decide (k = 55))) || (decide (j = 78) && decide (1840 ≤ k)) || (decide (83 ≤ j) && decide (j ≤ 101)) || decide (j = 103) || decide (j = 104)
def iq_co {α : Type} (z : α) (g : Nat → Int → α) : Nat → Int → α := fun j k => if iq_sx j k = true then z else g j k
theorem iq_co_of {α : Type} {z : α} {g h : Nat → Int → α} (e : ∀ j k, iq_sx j k = false → h j k = g j k) : iq_co z h = iq_co z g := by
  funext j k
  unfold iq_co
  rcases hb : iq_sx j k with _ | _
  · simp [e j k hb]
  · rfl
theorem iq_co_uz {α : Type} {z v : α} {g : Nat → Int → α} {j : Nat} {i : Int} (h : iq_sx j i = true) : iq_co z (iq_uz g j i v) = iq_co z g := by
  refine iq_co_of (fun a b hb => ?_)
  unfold iq_uz
  rw [if_neg]
  rintro ⟨rfl, rfl⟩
  rw [h] at hb; cases hb
theorem iq_co_at {α : Type} {z : α} {g h : Nat → Int → α} (e : iq_co z h = iq_co z g) {j : Nat} {k : Int} (hb : iq_sx j k = false) : h j k = g j k := by
  have := congrFun (congrFun e j) k
  unfold iq_co at this
  rw [hb] at this
  simpa using this
/-- nothing that is kept has changed, nor have the fractions -/
def iq_KK (g : iq_I) (l : iq_J) (g' : iq_I) (l' : iq_J) : Prop := iq_co 0 g' = iq_co 0 g ∧ iq_co 0 l' = iq_co 0 l ∧ l' 0 1 = l 0 1 ∧ l' 0 2 = l 0 2 ∧ l' 77 2 = l 77 2 ∧ l' 77 3 = l 77 3
theorem iq_KK.refl (g : iq_I) (l : iq_J) : iq_KK g l g l := ⟨rfl, rfl, rfl, rfl, rfl, rfl⟩
theorem iq_KK.trans {g g1 g2 : iq_I} {l l1 l2 : iq_J} (a : iq_KK g l g1 l1) (b : iq_KK g1 l1 g2 l2) : iq_KK g l g2 l2 :=
  ⟨b.1.trans a.1, b.2.1.trans a.2.1, b.2.2.1.trans a.2.2.1, b.2.2.2.1.trans a.2.2.2.1, b.2.2.2.2.1.trans a.2.2.2.2.1, b.2.2.2.2.2.trans a.2.2.2.2.2⟩
theorem iq_KK.uz {g g1 : iq_I} {l l1 : iq_J} (a : iq_KK g l g1 l1) {j : Nat} {i v : Int} (h : iq_sx j i = true) : iq_KK g l (iq_uz g1 j i v) l1 :=
  ⟨(iq_co_uz h).trans a.1, a.2⟩
theorem iq_KK.ofg {g g1 : iq_I} {l : iq_J} (e : ∀ j k, iq_sx j k = false → g1 j k = g j k) : iq_KK g l g1 l := ⟨iq_co_of e, rfl, rfl, rfl, rfl, rfl⟩
/-! a scale of the class and its place in the model -/
def iq_f (P : Int → Int) : Int → Bool := iq_dg (iq_ch (P 1) (P 4) (P 2) (P 5)) (P 3).toNat
def iq_m (P : Int → Int) : Int := iq_cn (iq_f P) (P 1).toNat
def iq_t (P : Int → Int) (d : Int) : Int := iq_nth (iq_f P) (P 1).toNat 0 d
def iq_SR (g : iq_I) (l : iq_J) (S P R : Nat) (off : Int) : Prop := iq_pb (g P) ∧ (∀ k, 0 ≤ k → k < 9 → g 78 (off + k) = g P k) ∧ (∀ t, iq_tb (l S 4) t = iq_f (g P) t) ∧ (∀ t, iq_tb (l S 3) t = true → t < g P 1) ∧ (∀ t, 0 ≤ t → t < 60 → g 78 (off + 20 + t) = if iq_tb (l S 3) t = true then 1 else 0) ∧ (0 ≤ g S 2 ∧ g S 2 ≤ 12 ∧ g 78 (off + 9) = g S 2) ∧ (∀ k, 0 ≤ k → k < g S 2 → g 78 (off + 80 + k) = g R k ∧ 0 ≤ g R k ∧ g R k < 60)
theorem iq_nthR (f : Int → Bool) (n : Nat) : ∀ i k : Int, 0 ≤ i → (iq_nth f n i k = -1 ∨ (i ≤ iq_nth f n i k ∧ iq_nth f n i k < i + n)) := by
  induction n with
  | zero => intro i k _; left; rfl
  | succ n ih =>
    intro i k h
    rw [iq_nth]
    split
    · split
      · right; omega
      · have := ih (i + 1) (k - 1) (by omega); omega
    · have := ih (i + 1) k (by omega); omega
theorem iq_nth_shift (f : Int → Bool) (n : Nat) : ∀ (i : Nat) (k : Int) (t : Nat), i ≤ t → t < i + n → f t = true → iq_cn f t - iq_cn f i = k → iq_nth f n i k = t := by
  induction n with
  | zero => intro i k t h1 h2; omega
  | succ n ih =>
    intro i k t h1 h2 h3 h4
    rw [iq_nth]
    by_cases c : t = i
    · subst c
      rw [if_pos h3, if_pos (by omega)]
    · have hS : iq_cn f (i + 1) = iq_cn f i + (if f i = true then 1 else 0) := rfl
      by_cases hf : f i = true
      · rw [if_pos hf] at hS ⊢
        have hm := iq_cn_mono f (show i + 1 ≤ t by omega)
        rw [if_neg (by omega)]
        have := ih (i + 1) (k - 1) t (by omega) (by omega) h3 (by omega)
        rw [← this]; rfl
      · rw [if_neg hf] at hS ⊢
        have := ih (i + 1) k t (by omega) (by omega) h3 (by omega)
        rw [← this]; rfl
theorem iq_nth_none (f : Int → Bool) (n : Nat) : ∀ (i : Nat) (k : Int), iq_cn f (i + n) - iq_cn f i ≤ k → iq_nth f n i k = -1 := by
  induction n with
  | zero => intro i k _; rfl
  | succ n ih =>
    intro i k h
    rw [iq_nth]
    have hS : iq_cn f (i + 1) = iq_cn f i + (if f i = true then 1 else 0) := rfl
    have e : i + (n + 1) = (i + 1) + n := by omega
    rw [e] at h
    have hm := iq_cn_mono f (show i + 1 ≤ (i + 1) + n by omega)
    by_cases hf : f i = true
    · rw [if_pos hf] at hS ⊢
      rw [if_neg (by omega)]
      exact ih (i + 1) (k - 1) (by omega)
    · rw [if_neg hf] at hS ⊢
      exact ih (i + 1) k (by omega)
theorem iq_nth_congr {f h : Int → Bool} (n : Nat) : ∀ i k : Int, (∀ t, i ≤ t → t < i + n → f t = h t) → iq_nth f n i k = iq_nth h n i k := by
  induction n with
  | zero => intro i k _; rfl
  | succ n ih =>
    intro i k e
    rw [iq_nth, iq_nth, e i (by omega) (by omega), ih (i + 1) (k - 1) (fun t a b => e t (by omega) (by omega)), ih (i + 1) k (fun t a b => e t (by omega) (by omega))]
theorem iq_nth_more {f : Int → Bool} (n m : Nat) : ∀ i k : Int, (∀ t, i + n ≤ t → f t = false) → iq_nth f (n + m) i k = iq_nth f n i k := by
  induction n with
  | zero =>
    intro i k e
    rw [Nat.zero_add]
    have hx : ∀ (m : Nat) (i k : Int), (∀ t, i ≤ t → f t = false) → iq_nth f m i k = -1 := by
      intro m
      induction m with
      | zero => intro i k _; rfl
      | succ m ih =>
        intro i k e
        rw [iq_nth, if_neg (by rw [e i (by omega)]; decide)]
        exact ih (i + 1) k (fun t h => e t (by omega))
    rw [hx m i k (fun t h => e t (by omega))]; rfl
  | succ n ih =>
    intro i k e
    rw [show n + 1 + m = (n + m) + 1 by omega, iq_nth, iq_nth, ih (i + 1) (k - 1) (fun t h => e t (by omega)), ih (i + 1) k (fun t h => e t (by omega))]
theorem iq_fR {P : Int → Int} (hp : iq_pb P) {t : Int} (h : iq_f P t = true) : 0 ≤ t ∧ t < P 1 := by
  obtain ⟨j, -, -, e⟩ := iq_dgi.mp h
  rw [← e]
  exact iq_chR (by have := hp.2.1; omega)
theorem iq_tv {P : Int → Int} (hp : iq_pb P) {t : Nat} (h : iq_f P t = true) : iq_t P (iq_cn (iq_f P) t) = t := by
  have h1 := iq_fR hp h
  refine iq_nth_shift (iq_f P) (P 1).toNat 0 _ t (by omega) (by omega) h ?_
  show _ - (0 : Int) = _
  omega
theorem iq_mR {P : Int → Int} (hp : iq_pb P) : 1 ≤ iq_m P ∧ iq_m P ≤ P 3 ∧ iq_m P ≤ P 1 := by
  obtain ⟨p0, p1, p2, p3, p4, p5, p6, p7, p8⟩ := hp
  have h1 := iq_cn_dg (iq_ch (P 1) (P 4) (P 2) (P 5)) (P 3).toNat (P 1).toNat
  have h2 := iq_cn_nonneg (iq_f P) (P 1).toNat
  have hr := iq_chR (p := P 1) (down := P 4) (gen := P 2) (root := P 5) (k := 0) (by omega)
  have h3 : 0 < iq_m P := iq_cn_pos (t := (iq_ch (P 1) (P 4) (P 2) (P 5) 0).toNat) (by omega) (iq_dgi.mpr ⟨0, by omega, by omega, by omega⟩)
  have e : iq_m P = iq_cn (iq_dg (iq_ch (P 1) (P 4) (P 2) (P 5)) (P 3).toNat) (P 1).toNat := rfl
  unfold iq_m at *
  omega
theorem iq_trg {P : Int → Int} (hp : iq_pb P) : iq_rg (iq_t P) (iq_m P) (P 1) := by
  have h := iq_ring_of (f := iq_f P) (p := (P 1).toNat) (T := iq_t P) (by have := iq_mR hp; unfold iq_m at this; omega) (fun t _ b => iq_tv hp b)
  rw [Int.toNat_of_nonneg (by have := hp.2.1; omega)] at h
  exact h
theorem iq_Tt {P T : Int → Int} (hp : iq_pb P) (h : ∀ t : Nat, (t : Int) < P 1 → iq_f P t = true → T (iq_cn (iq_f P) t) = t) {d : Int} (h1 : 0 ≤ d) (h2 : d < iq_m P) : T d = iq_t P d := by
  obtain ⟨t, t1, t2, t3⟩ := iq_cn_sur (iq_f P) (P 1).toNat d h1 h2
  rw [← t3, h t (by omega) t2, iq_tv hp t2]
theorem iq_cn64 {P : Int → Int} (hp : iq_pb P) {x : Int64} (h : ∀ t, iq_tb x t = iq_f P t) : iq_cn (iq_tb x) 64 = iq_m P := by
  have hp1 := hp.2.1
  rw [iq_cn_congr (h := iq_f P) (fun i _ _ => h i)]
  refine iq_cn_ext (a := (P 1).toNat) (b := 64) (by omega) (fun i a b => ?_)
  rcases hb : iq_f P i with _ | _
  · rfl
  · have := iq_fR hp hb; omega
theorem iq_pb_congr {P P' : Int → Int} (h : ∀ k, 0 ≤ k → k < 9 → P' k = P k) (hp : iq_pb P) : iq_pb P' := by
  unfold iq_pb
  rw [h 0 (by omega) (by omega), h 1 (by omega) (by omega), h 2 (by omega) (by omega), h 3 (by omega) (by omega), h 4 (by omega) (by omega), h 5 (by omega) (by omega), h 6 (by omega) (by omega), h 7 (by omega) (by omega), h 8 (by omega) (by omega)]
  exact hp
theorem iq_f_congr {P P' : Int → Int} (h : ∀ k, 0 ≤ k → k < 9 → P' k = P k) : iq_f P' = iq_f P := by
  unfold iq_f
  rw [h 1 (by omega) (by omega), h 2 (by omega) (by omega), h 3 (by omega) (by omega), h 4 (by omega) (by omega), h 5 (by omega) (by omega)]
theorem iq_m_congr {P P' : Int → Int} (h : ∀ k, 0 ≤ k → k < 9 → P' k = P k) : iq_m P' = iq_m P := by
  unfold iq_m
  rw [iq_f_congr h, h 1 (by omega) (by omega)]
theorem iq_t_congr {P P' : Int → Int} (h : ∀ k, 0 ≤ k → k < 9 → P' k = P k) : iq_t P' = iq_t P := by
  funext d
  unfold iq_t
  rw [iq_f_congr h, h 1 (by omega) (by omega)]
theorem iq_SR.p78 {g : iq_I} {l : iq_J} {S P R : Nat} (h : iq_SR g l S P R 0) : ∀ k, 0 ≤ k → k < 9 → g 78 k = g P k := by
  intro k a b
  have := h.2.1 k a b
  rwa [Int.zero_add] at this
theorem iq_bt_congr {T T' : Int → Int} {p d e : Int} (h1 : T d = T' d) (h2 : T e = T' e) : iq_bt T p d e = iq_bt T' p d e := by
  unfold iq_bt; rw [h1, h2]
theorem iq_sp_congr {T T' : Int → Int} {m p d n : Int} (hm : 0 < m) (h : ∀ d, 0 ≤ d → d < m → T d = T' d) (h1 : 0 ≤ d) (h2 : d < m) : iq_sp T m p d n = iq_sp T' m p d n := by
  unfold iq_sp
  rw [iq_bt_congr (h d h1 h2) (h _ (Int.emod_nonneg _ (by omega)) (Int.emod_lt_of_pos _ hm))]
theorem iq_rg_congr {T T' : Int → Int} {m p : Int} (h : ∀ d, 0 ≤ d → d < m → T d = T' d) (hr : iq_rg T' m p) : iq_rg T m p := by
  refine ⟨hr.1, fun d a b => ?_, fun d e a b c => ?_⟩
  · rw [h d a b]; exact hr.2.1 d a b
  · rw [h d a (by omega), h e (by omega) c]; exact hr.2.2 d e a b c
/-! the degrees as a ring, in the class -/
theorem sp137 {N : Nat} {xs : Nat → Int32} {Q : iq_T} {g : iq_I} {l : iq_J} (hs : iq_SR g l 23 24 25 0) (q : ∀ g' : iq_I, (∀ j, ¬ j = 31 → ¬ j = 32 → g' j = g j) → g' 31 2 = g 24 1 → g' 31 3 = iq_m (g 24) → (∀ d, 0 ≤ d → d < iq_m (g 24) → g' 32 d = iq_t (g 24) d) → iq_RG g' → Q (some (iq_r 31)) g' (iq_uz l 31 1 (l 23 4))) : iq_P N xs 137 0 [some (iq_r 0)] [] g l Q := by
  have hp := hs.1
  have hp1 := hp.2.1
  have hm := iq_mR hp
  refine B137_0 _ _ (B80_23 _ _ ⟨_, rfl, sp136 (by omega) (fun g' a b c dd => ⟨rfl, ?_⟩)⟩)
  have hc : iq_cn (iq_tb (l 23 4)) (g 24 1).toNat = iq_m (g 24) := iq_cn_congr (fun i _ _ => hs.2.2.1 i)
  have hcc : ∀ n : Nat, iq_cn (iq_tb (l 23 4)) n = iq_cn (iq_f (g 24)) n := fun n => iq_cn_congr (fun i _ _ => hs.2.2.1 i)
  have ht : ∀ d, 0 ≤ d → d < iq_m (g 24) → g' 32 d = iq_t (g 24) d := fun d h1 h2 => iq_Tt hp (fun t ht1 ht2 => by
    have := dd t ht1 (by rw [hs.2.2.1]; exact ht2)
    rw [hcc] at this
    exact this) h1 h2
  rw [hc] at c
  refine q g' a b c ht ⟨?_, by omega, by omega⟩
  rw [b, c]
  exact iq_rg_congr ht (iq_trg hp)
/-! the scale laid out, in the model -/
def iq_LS (g : iq_I) (P : Int → Int) : Prop := g 77 26 = iq_m P ∧ (∀ d, 0 ≤ d → d < iq_m P → g 85 d = iq_t P d) ∧ (∀ t : Nat, t < 60 → g 87 t = if iq_f P t = true then iq_cn (iq_f P) t else -1) ∧ (∀ d, 0 ≤ d → d < iq_m P → g 86 d = iq_sp (iq_t P) (iq_m P) (P 1) d 1) ∧ g 77 27 = iq_cn (iq_dg (fun d => iq_sp (iq_t P) (iq_m P) (P 1) d 1) (iq_m P).toNat) ((P 1).toNat + 1) ∧ (∀ v : Nat, (v : Int) ≤ P 1 → iq_dg (fun d => iq_sp (iq_t P) (iq_m P) (P 1) d 1) (iq_m P).toNat v = true → g 88 (iq_cn (iq_dg (fun d => iq_sp (iq_t P) (iq_m P) (P 1) d 1) (iq_m P).toNat) v) = v)
theorem iq_dg_congr {c c' : Int → Int} {k : Nat} (h : ∀ j : Int, 0 ≤ j → j < k → c j = c' j) : iq_dg c k = iq_dg c' k := by
  induction k with
  | zero => rfl
  | succ k ih =>
    funext t
    rw [iq_dg, iq_dg, ih (fun j a b => h j a (by omega)), h k (by omega) (by omega)]
theorem sp114c {N : Nat} {xs : Nat → Int32} {Q : iq_T} {g : iq_I} {l : iq_J} (hs : iq_SR g l 23 24 25 0) (q : ∀ g' : iq_I, (∀ j, ¬ j = 77 → (j < 85 ∨ 88 < j) → g' j = g j) → (∀ k, ¬ k = 26 → ¬ k = 27 → g' 77 k = g 77 k) → iq_LS g' (g 24) → Q none g' l) : iq_P N xs 114 0 [some (iq_r 77)] [] g l Q := by
  have hp := hs.1
  have h78 := hs.p78
  have hp1 := hp.2.1
  refine sp114 (iq_pb_congr h78 hp) (fun g' a b c d e => q g' a b ?_)
  have ef : iq_dg (iq_ch (g 78 1) (g 78 4) (g 78 2) (g 78 5)) (g 78 3).toNat = iq_f (g 24) := iq_f_congr h78
  rw [ef, h78 1 (by omega) (by omega)] at c
  obtain ⟨c1, c2, c3, c4, c5, c6⟩ := c
  have hm := iq_mR hp
  have c1' : g' 77 26 = iq_m (g 24) := c1
  have ht : ∀ d, 0 ≤ d → d < iq_m (g 24) → g' 85 d = iq_t (g 24) d := fun d h1 h2 => iq_Tt hp c2 h1 h2
  have hsp : ∀ d, 0 ≤ d → d < iq_m (g 24) → iq_sp (g' 85) (iq_m (g 24)) (g 24 1) d 1 = iq_sp (iq_t (g 24)) (iq_m (g 24)) (g 24 1) d 1 := fun d h1 h2 => iq_sp_congr (by omega) ht h1 h2
  have hst : iq_st g' (g 24 1) = iq_dg (fun d => iq_sp (iq_t (g 24)) (iq_m (g 24)) (g 24 1) d 1) (iq_m (g 24)).toNat := by
    unfold iq_st
    rw [c1']
    exact iq_dg_congr (fun j h1 h2 => hsp j h1 (by omega))
  rw [hst] at c5 c6
  refine ⟨c1', ht, c3, fun d h1 h2 => ?_, c5, c6⟩
  rw [c4 d h1 (by omega), c1', hsp d h1 h2]
