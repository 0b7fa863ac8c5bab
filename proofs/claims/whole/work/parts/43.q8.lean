/-! alike, modes. -/
theorem sf_awi (f : Int → Bool) (n : Nat) : ∀ i : Int, iq_aw f n i = true ↔ ∀ k, i ≤ k → k < i + n → f k = true := by
  induction n with
  | zero => intro i; rw [iq_aw]; exact ⟨fun _ k a b => by omega, fun _ => rfl⟩
  | succ n ih =>
    intro i
    rw [iq_aw, Bool.and_eq_true, ih]
    constructor
    · rintro ⟨a, b⟩ k c d
      by_cases e : k = i
      · rw [e]; exact a
      · exact b k (by omega) (by omega)
    · intro h
      exact ⟨h i (by omega) (by omega), fun k c d => h k (by omega) (by omega)⟩
/-- a rising row of all that h holds of: how many are below each -/
theorem sf_enum {a : Int → Int} {h : Int → Bool} {m : Nat} (h0 : ∀ k : Int, 0 ≤ k → k < m → 0 ≤ a k ∧ h (a k) = true) (h1 : ∀ k : Int, 0 ≤ k → k + 1 < m → a k < a (k + 1)) (h2 : ∀ t : Int, 0 ≤ t → h t = true → ∃ k : Int, 0 ≤ k ∧ k < m ∧ a k = t) (k : Nat) : k < m → iq_cn h (a k).toNat = k := by
  have mono : ∀ (n : Nat) (i : Int), 0 ≤ i → i + n < m → a i ≤ a (i + n) ∧ (0 < n → a i < a (i + n)) := by
    intro n
    induction n with
    | zero => intro i _ _; simp
    | succ n ih =>
      intro i c d
      have e1 := ih i c (by omega)
      have e2 := h1 (i + n) (by omega) (by omega)
      rw [show i + ((n + 1 : Nat) : Int) = i + n + 1 by omega]
      omega
  have lt : ∀ i j : Int, 0 ≤ i → i < j → j < m → a i < a j := by
    intro i j c d e
    have := (mono (j - i).toNat i c (by omega)).2 (by omega)
    rw [show i + (((j - i).toNat : Nat) : Int) = j by omega] at this
    exact this
  induction k with
  | zero =>
    intro hk
    have b := h0 0 (by omega) (by omega)
    have : iq_cn h (a ((0 : Nat) : Int)).toNat = iq_cn h 0 := by
      refine iq_cn_ext (by omega) (fun i c d => ?_)
      rcases hb : h i with _ | _
      · rfl
      · obtain ⟨k, k1, k2, k3⟩ := h2 i (by omega) hb
        by_cases e : k = 0
        · rw [e] at k3
          have : a ((0 : Nat) : Int) = a 0 := rfl
          omega
        · have := lt 0 k (by omega) (by omega) k2
          have : a ((0 : Nat) : Int) = a 0 := rfl
          omega
    rw [this]; rfl
  | succ k ih =>
    intro hk
    have ih := ih (by omega)
    have b1 := h0 k (by omega) (by omega)
    have b2 := h0 ((k + 1 : Nat) : Int) (by omega) (by omega)
    have c := h1 k (by omega) (by omega)
    have e0 : ((k + 1 : Nat) : Int) = (k : Int) + 1 := by omega
    have e1 : iq_cn h (a ((k + 1 : Nat) : Int)).toNat = iq_cn h ((a k).toNat + 1) := by
      refine iq_cn_ext (by rw [e0]; omega) (fun i c d => ?_)
      rcases hb : h i with _ | _
      · rfl
      · obtain ⟨j, j1, j2, j3⟩ := h2 i (by omega) hb
        by_cases f1 : j ≤ k
        · by_cases f2 : j = k
          · rw [f2] at j3; omega
          · have := lt j k j1 (by omega) (by omega); omega
        · by_cases f2 : j = (k : Int) + 1
          · rw [f2] at j3; rw [e0] at d b2; omega
          · have := lt ((k : Int) + 1) j (by omega) (by omega) j2; rw [e0] at d b2; omega
    rw [e1, iq_cn, ih, if_pos (by rw [Int.toNat_of_nonneg b1.1]; exact b1.2)]
    omega
theorem sf_ft {P : Int → Int} (hp : iq_pb P) {e : Int} (h1 : 0 ≤ e) (h2 : e < iq_m P) : iq_f P (iq_t P e) = true := by
  obtain ⟨t, t1, t2, t3⟩ := iq_cn_sur (iq_f P) (P 1).toNat e h1 h2
  rw [← t3, iq_tv hp t2]; exact t2
theorem sf_tf {P : Int → Int} (hp : iq_pb P) {t : Int} (h : iq_f P t = true) : ∃ e, 0 ≤ e ∧ e < iq_m P ∧ iq_t P e = t := by
  have hr := iq_fR hp h
  have hf : iq_f P ((t.toNat : Nat) : Int) = true := by rw [Int.toNat_of_nonneg hr.1]; exact h
  have hn := iq_cn_nonneg (iq_f P) t.toNat
  have hl := iq_cn_lt (show t.toNat < (P 1).toNat by omega) hf
  refine ⟨iq_cn (iq_f P) t.toNat, hn.1, hl, ?_⟩
  rw [iq_tv hp hf]; omega
theorem sf_btm {T : Int → Int} {m p d e : Int} (h : iq_rg T m p) (h1 : 0 ≤ d) (h2 : d < m) (h3 : 0 ≤ e) (h4 : e < m) (t : Int) (ht : 0 ≤ t ∧ t < p) : (t + T d) % p = T e ↔ t = iq_bt T p d e := by
  have a1 := h.2.1 d h1 h2
  have a2 := h.2.1 e h3 h4
  unfold iq_bt
  by_cases c : t + T d < p
  · rw [Int.emod_eq_of_lt (by omega) c]
    split <;> omega
  · have h4 := Int.add_mul_emod_self_left (t + T d - p) p 1
    rw [show t + T d - p + p * 1 = t + T d by omega] at h4
    rw [h4, Int.emod_eq_of_lt (by omega) (by omega)]
    split <;> omega
theorem sf_spk {P : Int → Int} (hp : iq_pb P) {d k : Int} (h1 : 0 ≤ k) (h2 : k < iq_m P) : iq_sp (iq_t P) (iq_m P) (P 1) d k = iq_bt (iq_t P) (P 1) d ((d + k) % iq_m P) := by
  unfold iq_sp
  rw [Int.ediv_eq_zero_of_lt h1 h2]; omega
/-- the tones from a degree on -/
theorem sf_mode {P : Int → Int} (hp : iq_pb P) {d : Int} (h1 : 0 ≤ d) (h2 : d < iq_m P) {t : Int} (ht : 0 ≤ t ∧ t < P 1) : iq_f P ((t + iq_t P d) % P 1) = true ↔ ∃ k : Int, 0 ≤ k ∧ k < iq_m P ∧ iq_sp (iq_t P) (iq_m P) (P 1) d k = t := by
  have hm := iq_mR hp
  have hr := iq_trg hp
  constructor
  · intro h
    obtain ⟨e, e1, e2, e3⟩ := sf_tf hp h
    have hb := (sf_btm hr h1 h2 e1 e2 t ht).mp e3.symm
    by_cases c : d ≤ e
    · refine ⟨e - d, by omega, by omega, ?_⟩
      rw [sf_spk hp (by omega) (by omega), show d + (e - d) = e by omega, Int.emod_eq_of_lt e1 e2]
      exact hb.symm
    · refine ⟨e - d + iq_m P, by omega, by omega, ?_⟩
      have h3 := Int.add_mul_emod_self_left e (iq_m P) 1
      rw [sf_spk hp (by omega) (by omega), show d + (e - d + iq_m P) = e + iq_m P * 1 by omega, h3, Int.emod_eq_of_lt e1 e2]
      exact hb.symm
  · rintro ⟨k, k1, k2, k3⟩
    have m1 := Int.emod_nonneg (d + k) (show iq_m P ≠ 0 by omega)
    have m2 := Int.emod_lt_of_pos (d + k) (show 0 < iq_m P by omega)
    rw [sf_spk hp k1 k2] at k3
    rw [(sf_btm hr h1 h2 m1 m2 t ht).mpr k3.symm]
    exact sf_ft hp m1 m2
theorem sf_spm {P : Int → Int} (hp : iq_pb P) {d : Int} (h1 : 0 ≤ d) (h2 : d < iq_m P) : iq_sp (iq_t P) (iq_m P) (P 1) d (iq_m P) = P 1 := by
  have hm := iq_mR hp
  have e1 : iq_m P / iq_m P = 1 := Int.ediv_self (by omega)
  have h3 := Int.add_mul_emod_self_left d (iq_m P) 1
  rw [Int.mul_one] at h3
  have hb := (iq_btR (iq_trg hp) h1 h2 h1 h2).2.2.mpr rfl
  unfold iq_sp
  rw [e1, h3, Int.emod_eq_of_lt h1 h2, hb]
  omega
def sf_ak (P : Int → Int) (d o : Int) : Bool := iq_aw (fun k => decide (iq_sp (iq_t P) (iq_m P) (P 1) ((d + k) % iq_m P) 1 = iq_sp (iq_t P) (iq_m P) (P 1) ((o + k) % iq_m P) 1)) (iq_m P).toNat 0
theorem sf_aki {P : Int → Int} (hp : iq_pb P) {d o : Int} (h1 : 0 ≤ d) (h2 : d < iq_m P) (h3 : 0 ≤ o) (h4 : o < iq_m P) : sf_ak P d o = true ↔ ∀ t, 0 ≤ t → t < P 1 → iq_f P ((t + iq_t P d) % P 1) = iq_f P ((t + iq_t P o) % P 1) := by
  have hm := iq_mR hp
  have hr := iq_trg hp
  unfold sf_ak
  rw [sf_awi]
  constructor
  · intro h
    have hs : ∀ n : Nat, (n : Int) ≤ iq_m P → iq_sp (iq_t P) (iq_m P) (P 1) d n = iq_sp (iq_t P) (iq_m P) (P 1) o n := by
      intro n
      induction n with
      | zero => intro _; rw [show ((0 : Nat) : Int) = 0 from rfl, iq_sp0 (by omega) h1 h2, iq_sp0 (by omega) h3 h4]
      | succ n ih =>
        intro hn
        have e := h n (by omega) (by omega)
        rw [decide_eq_true_eq] at e
        rw [show ((n + 1 : Nat) : Int) = (n : Int) + 1 by omega, iq_spS hr h1 h2 (by omega), iq_spS hr h3 h4 (by omega), ih (by omega), e]
    intro t a b
    refine iq_beq ?_
    rw [sf_mode hp h1 h2 ⟨a, b⟩, sf_mode hp h3 h4 ⟨a, b⟩]
    constructor
    · rintro ⟨k, k1, k2, k3⟩
      refine ⟨k, k1, k2, ?_⟩
      have := hs k.toNat (by omega)
      rw [Int.toNat_of_nonneg k1] at this
      rw [← this]; exact k3
    · rintro ⟨k, k1, k2, k3⟩
      refine ⟨k, k1, k2, ?_⟩
      have := hs k.toNat (by omega)
      rw [Int.toNat_of_nonneg k1] at this
      rw [this]; exact k3
  · intro h
    have hen : ∀ d : Int, 0 ≤ d → d < iq_m P → ∀ k : Nat, k < (iq_m P).toNat → iq_cn (fun t => decide (t < P 1) && iq_f P ((t + iq_t P d) % P 1)) (iq_sp (iq_t P) (iq_m P) (P 1) d k).toNat = k := by
      intro d h1 h2 k hk
      have hR : ∀ k : Int, 0 ≤ k → k < iq_m P → 0 ≤ iq_sp (iq_t P) (iq_m P) (P 1) d k ∧ iq_sp (iq_t P) (iq_m P) (P 1) d k < P 1 := by
        intro k a b
        rw [sf_spk hp a b]
        have := iq_btR hr h1 h2 (Int.emod_nonneg (d + k) (show iq_m P ≠ 0 by omega)) (Int.emod_lt_of_pos (d + k) (show 0 < iq_m P by omega))
        omega
      refine sf_enum (m := (iq_m P).toNat) (fun k a b => ?_) (fun k a b => ?_) (fun t a b => ?_) k hk
      · have r := hR k a (by omega)
        refine ⟨r.1, ?_⟩
        rw [Bool.and_eq_true, decide_eq_true_eq]
        exact ⟨r.2, (sf_mode hp h1 h2 r).mpr ⟨k, a, by omega, rfl⟩⟩
      · have := iq_spS hr h1 h2 a
        have s1 := iq_sp1 hr (Int.emod_nonneg (d + k) (show iq_m P ≠ 0 by omega)) (Int.emod_lt_of_pos (d + k) (show 0 < iq_m P by omega))
        omega
      · rw [Bool.and_eq_true, decide_eq_true_eq] at b
        obtain ⟨k, k1, k2, k3⟩ := (sf_mode hp h1 h2 ⟨a, b.1⟩).mp b.2
        exact ⟨k, k1, by omega, k3⟩
    have hR : ∀ d : Int, 0 ≤ d → d < iq_m P → ∀ k : Int, 0 ≤ k → k < iq_m P → 0 ≤ iq_sp (iq_t P) (iq_m P) (P 1) d k ∧ iq_sp (iq_t P) (iq_m P) (P 1) d k < P 1 := by
      intro d h1 h2 k a b
      rw [sf_spk hp a b]
      have := iq_btR hr h1 h2 (Int.emod_nonneg (d + k) (show iq_m P ≠ 0 by omega)) (Int.emod_lt_of_pos (d + k) (show 0 < iq_m P by omega))
      omega
    have hs : ∀ k : Int, 0 ≤ k → k ≤ iq_m P → iq_sp (iq_t P) (iq_m P) (P 1) d k = iq_sp (iq_t P) (iq_m P) (P 1) o k := by
      intro k a b
      by_cases c : k = iq_m P
      · rw [c, sf_spm hp h1 h2, sf_spm hp h3 h4]
      · have c1 := hen d h1 h2 k.toNat (by omega)
        have c2 := hen o h3 h4 k.toNat (by omega)
        rw [Int.toNat_of_nonneg a] at c1 c2
        have r1 := hR d h1 h2 k a (by omega)
        have r2 := hR o h3 h4 k a (by omega)
        have e : ∀ n : Nat, (n : Int) ≤ P 1 → iq_cn (fun t => decide (t < P 1) && iq_f P ((t + iq_t P d) % P 1)) n = iq_cn (fun t => decide (t < P 1) && iq_f P ((t + iq_t P o) % P 1)) n := fun n hn => iq_cn_congr (fun i x y => by
          rw [h i x (by omega)])
        rw [e _ (by omega)] at c1
        have g1 : (fun t => decide (t < P 1) && iq_f P ((t + iq_t P o) % P 1)) (((iq_sp (iq_t P) (iq_m P) (P 1) d k).toNat : Nat) : Int) = true := by
          rw [Int.toNat_of_nonneg r1.1]
          dsimp only
          rw [Bool.and_eq_true, decide_eq_true_eq, ← h _ r1.1 r1.2]
          exact ⟨r1.2, (sf_mode hp h1 h2 r1).mpr ⟨k, a, by omega, rfl⟩⟩
        have g2 : (fun t => decide (t < P 1) && iq_f P ((t + iq_t P o) % P 1)) (((iq_sp (iq_t P) (iq_m P) (P 1) o k).toNat : Nat) : Int) = true := by
          rw [Int.toNat_of_nonneg r2.1]
          dsimp only
          rw [Bool.and_eq_true, decide_eq_true_eq]
          exact ⟨r2.2, (sf_mode hp h3 h4 r2).mpr ⟨k, a, by omega, rfl⟩⟩
        have := iq_cn_inj (f := fun t => decide (t < P 1) && iq_f P ((t + iq_t P o) % P 1)) (a := (iq_sp (iq_t P) (iq_m P) (P 1) d k).toNat) (b := (iq_sp (iq_t P) (iq_m P) (P 1) o k).toNat) g1 g2 (c1.trans c2.symm)
        omega
    intro k a b
    rw [decide_eq_true_eq]
    have e1 := hs k (by omega) (by omega)
    have e2 := hs (k + 1) (by omega) (by omega)
    rw [iq_spS hr h1 h2 (by omega), iq_spS hr h3 h4 (by omega)] at e2
    omega
/-- as the class tells them -/
theorem sf_akb {g : iq_I} {l : iq_J} {P : Int → Int} (hp : iq_pb P) (hf : ∀ t, iq_tb (l 31 1) t = iq_f P t) (h2 : g 31 2 = P 1) (ht : ∀ d, 0 ≤ d → d < iq_m P → g 32 d = iq_t P d) {d : Int} (a : 0 ≤ d) (b : d < iq_m P) (t : Int) : iq_tb (if g 32 d ≤ 0 then l 31 1 else iq_turn (l 31 1) (g 31 2 - g 32 d) (g 31 2)) t = (decide (0 ≤ t) && decide (t < P 1) && iq_f P ((t + iq_t P d) % P 1)) := by
  have hp1 := hp.2.1
  have hT := (iq_trg hp).2.1 d a b
  rw [h2, ht d a b]
  by_cases c : iq_t P d ≤ 0
  · rw [if_pos c, hf, show iq_t P d = 0 by omega, Int.add_zero]
    by_cases e : 0 ≤ t ∧ t < P 1
    · rw [Int.emod_eq_of_lt e.1 e.2]; simp [e.1, e.2]
    · have : iq_f P t = false := by
        rcases hb : iq_f P t with _ | _
        · rfl
        · exact (e (iq_fR hp hb)).elim
      rw [this]
      have : (decide (0 ≤ t) && decide (t < P 1)) = false := by simp; omega
      rw [this]; simp
  · rw [if_neg c, iq_tbturn (by omega) (by omega) (by omega) (fun t h => by rw [hf] at h; exact (iq_fR hp h).2), hf]
    have h3 := Int.add_mul_emod_self_left (t - (P 1 - iq_t P d)) (P 1) 1
    rw [show t - (P 1 - iq_t P d) + P 1 * 1 = t + iq_t P d by omega] at h3
    rw [h3]
theorem sf_ake {g : iq_I} {l : iq_J} {P : Int → Int} (hp : iq_pb P) (hf : ∀ t, iq_tb (l 31 1) t = iq_f P t) (h2 : g 31 2 = P 1) (ht : ∀ d, 0 ≤ d → d < iq_m P → g 32 d = iq_t P d) {d o : Int} (a : 0 ≤ d) (b : d < iq_m P) (a' : 0 ≤ o) (b' : o < iq_m P) : ((if g 32 d ≤ 0 then l 31 1 else iq_turn (l 31 1) (g 31 2 - g 32 d) (g 31 2)) = (if g 32 o ≤ 0 then l 31 1 else iq_turn (l 31 1) (g 31 2 - g 32 o) (g 31 2))) ↔ sf_ak P d o = true := by
  have hp1 := hp.2.1
  rw [sf_aki hp a b a' b']
  constructor
  · intro h t c e
    have := congrArg (fun x => iq_tb x t) h
    try dsimp only at this
    rw [sf_akb hp hf h2 ht a b, sf_akb hp hf h2 ht a' b'] at this
    simpa [c, e] using this
  · intro h
    refine iq_tb_ext (fun t c e => ?_)
    rw [sf_akb hp hf h2 ht a b, sf_akb hp hf h2 ht a' b']
    by_cases k : t < P 1
    · rw [h t c k]
    · simp [k]
def aAlike (P : Int → Int) (d o : Int) : Int × Int := if (0 ≤ d ∧ d < iq_m P) ∧ 0 ≤ o ∧ o < iq_m P then (if sf_ak P d o = true then 1 else 0, 0) else (-1, 1)
theorem cAlike {N : Nat} {xs : Nat → Int32} {Q : iq_T} {g : iq_I} {l : iq_J} {d o : Int} (hs : iq_SR g l 23 24 25 0) (hd : -2147483648 ≤ d ∧ d ≤ 2147483647) (he : -2147483648 ≤ o ∧ o ≤ 2147483647) (q : ∀ (g' : iq_I) (l' : iq_J), iq_KK g l g' l' → g' 0 0 = (aAlike (g 24) d o).2 → Q (some (iq_i (aAlike (g 24) d o).1)) g' l') : iq_P N xs 219 0 [some (iq_r 0), some (iq_i d), some (iq_i o), none] [] g l Q := by
  unfold aAlike at q
  have hm := iq_mR hs.1
  have no : ¬ ((0 ≤ d ∧ d < iq_m (g 24)) ∧ 0 ≤ o ∧ o < iq_m (g 24)) → iq_P N xs 44 0 [some (iq_r 0), some (iq_i 1)] [] g l (fun r g1 l2 => ∃ z3, r = some (iq_i z3) ∧ (Q (some (iq_i z3)) g1 l2)) := fun c => by
    rw [if_neg c] at q
    exact sp44 ⟨_, rfl, q _ _ ((iq_KK.refl _ _).uz iq_sx00) (by simp [iq_uz])⟩
  refine B219_0 _ _ _ _ (sp151 hs hd (fun a b => ⟨_, rfl, by omega, fun h => by omega, fun _ => sp151 hs he (fun a' b' => ⟨_, rfl, by omega, fun _ => sp137 hs (fun g' e1 e2 e3 e4 e5 => ?_), fun h => by omega⟩) (fun c => ⟨_, rfl, by omega, fun h => by omega, fun _ => no (by omega)⟩)⟩) (fun c => ⟨_, rfl, by omega, fun _ => no (by omega), fun h => by omega⟩))
  rw [if_pos ⟨⟨a, b⟩, a', b'⟩] at q
  have hf : ∀ t, iq_tb ((iq_uz l 31 1 (l 23 4)) 31 1) t = iq_f (g 24) t := by
    intro t
    rw [show (iq_uz l 31 1 (l 23 4)) 31 1 = l 23 4 by simp [iq_uz]]
    exact hs.2.2.1 t
  have hk := sf_ake (l := iq_uz l 31 1 (l 23 4)) hs.1 hf e2 e4 a b a' b'
  refine B219_q26_31 _ _ _ _ (sp215 e5 ⟨a, by omega⟩ ⟨_, rfl, sp215 e5 ⟨a', by omega⟩ ⟨_, rfl, iq_lcR _ _, fun c => sp90 ⟨_, rfl, ?_⟩, fun c => sp90 ⟨_, rfl, ?_⟩⟩⟩)
  · rw [iq_lc0, hk] at c
    rw [if_neg c] at q
    exact q _ _ ((iq_KKr e1).uz iq_sx00) (by simp [iq_uz])
  · rw [iq_lc0, hk] at c
    rw [if_pos c] at q
    exact q _ _ ((iq_KKr e1).uz iq_sx00) (by simp [iq_uz])
theorem sp217_p {N : Nat} {xs : Nat → Int32} {Q : iq_T} {g : iq_I} {l : iq_J} {P : Int → Int} (hp : iq_pb P) (hl : iq_LS g P) {d o : Int} (hd : 0 ≤ d ∧ d < iq_m P) (ho : 0 ≤ o ∧ o < iq_m P) (n : Nat) : ∀ k : Int, 0 ≤ k → k + n = iq_m P → (iq_aw (fun k => decide (iq_sp (iq_t P) (iq_m P) (P 1) ((d + k) % iq_m P) 1 = iq_sp (iq_t P) (iq_m P) (P 1) ((o + k) % iq_m P) 1)) n k = true → Q (some (iq_i 1)) g l) → (iq_aw (fun k => decide (iq_sp (iq_t P) (iq_m P) (P 1) ((d + k) % iq_m P) 1 = iq_sp (iq_t P) (iq_m P) (P 1) ((o + k) % iq_m P) 1)) n k = false → Q (some (iq_i 0)) g l) → iq_P N xs 217 2 [some (iq_r 77), some (iq_i d), some (iq_i o), some (iq_i k)] [] g l Q := by
  have hm := iq_mR hp
  have hp1 := hp.2.1
  have hp3 := hp.2.2.2.1
  have h26 := hl.1
  induction n with
  | zero =>
    intro k h1 h q1 q0
    exact B217_p2_77 _ _ _ _ _ ⟨by omega, fun h => q1 rfl, fun h => by omega⟩
  | succ n ih =>
    intro k h1 h q1 q0
    rw [iq_aw] at q1 q0
    have a1 := Int.emod_nonneg (d + k) (show iq_m P ≠ 0 by omega)
    have a2 := Int.emod_lt_of_pos (d + k) (show 0 < iq_m P by omega)
    have b1 := Int.emod_nonneg (o + k) (show iq_m P ≠ 0 by omega)
    have b2 := Int.emod_lt_of_pos (o + k) (show 0 < iq_m P by omega)
    have s1 := iq_sp1 (iq_trg hp) a1 a2
    have s2 := iq_sp1 (iq_trg hp) b1 b2
    refine B217_p2_77 _ _ _ _ _ ⟨by omega, fun h => by omega, fun h => ?_⟩
    rw [h26, Int.tmod_eq_emod_of_nonneg (by omega), Int.tmod_eq_emod_of_nonneg (by omega), hl.2.2.2.1 _ a1 a2, hl.2.2.2.1 _ b1 b2]
    refine ⟨by omega, by omega, by omega, by omega, by omega, fun c => ?_, fun c => ?_⟩
    · simp only [c, decide_true, Bool.true_and] at q1 q0
      exact ih (k + 1) (by omega) (by omega) q1 q0
    · simp only [c, decide_false, Bool.false_and] at q0
      exact q0 trivial
theorem sp217 {N : Nat} {xs : Nat → Int32} {Q : iq_T} {g : iq_I} {l : iq_J} {P : Int → Int} (hp : iq_pb P) (hl : iq_LS g P) {d o : Int} (hd : 0 ≤ d ∧ d < iq_m P) (ho : 0 ≤ o ∧ o < iq_m P) (q1 : sf_ak P d o = true → Q (some (iq_i 1)) g l) (q0 : sf_ak P d o = false → Q (some (iq_i 0)) g l) : iq_P N xs 217 0 [some (iq_r 77), some (iq_i d), some (iq_i o), none] [] g l Q := by
  have hm := iq_mR hp
  exact B217_77 _ _ _ _ (sp217_p hp hl hd ho (iq_m P).toNat 0 (by omega) (by omega) q1 q0)
theorem iq_SR.keep {g g' : iq_I} {l l' : iq_J} (hs : iq_SR g l 23 24 25 0) (hk : iq_KK g l g' l') : iq_SR g' l' 23 24 25 0 := by
  obtain ⟨k1, k2, -⟩ := hk
  have e78 : ∀ k, k < 1840 → g' 78 k = g 78 k := fun k h => iq_co_at k1 (by simp [iq_sx]; omega)
  have e24 : g' 24 = g 24 := by funext k; exact iq_co_at k1 (by simp [iq_sx])
  have e23 : g' 23 = g 23 := by funext k; exact iq_co_at k1 (by simp [iq_sx])
  have e25 : g' 25 = g 25 := by funext k; exact iq_co_at k1 (by simp [iq_sx])
  have l23 : l' 23 = l 23 := by funext k; exact iq_co_at k2 (by simp [iq_sx])
  obtain ⟨s1, s2, s3, s4, s5, s6, s7⟩ := hs
  unfold iq_SR
  rw [e24, e23, e25, l23]
  refine ⟨s1, fun k a b => ?_, s3, s4, fun t a b => ?_, ⟨s6.1, s6.2.1, ?_⟩, fun k a b => ?_⟩
  · rw [e78 _ (by omega)]; exact s2 k a b
  · rw [e78 _ (by omega)]; exact s5 t a b
  · rw [e78 _ (by omega)]; exact s6.2.2
  · rw [e78 _ (by omega)]; exact s7 k a b
theorem iq_KK.p24 {g g' : iq_I} {l l' : iq_J} (hk : iq_KK g l g' l') : g' 24 = g 24 := by
  funext k; exact iq_co_at hk.1 (by simp [iq_sx])
theorem mAlike {N : Nat} {xs : Nat → Int32} {Q : iq_T} {g : iq_I} {l : iq_J} {d o : Int} (hs : iq_SR g l 23 24 25 0) (hd : -2147483648 ≤ d ∧ d ≤ 2147483647) (he : -2147483648 ≤ o ∧ o ≤ 2147483647) (q : ∀ (g' : iq_I) (l' : iq_J), iq_KK g l g' l' → g' 0 0 = g 0 0 → g' 77 1 = (aAlike (g 24) d o).2 → Q (some (iq_i (aAlike (g 24) d o).1)) g' l') : iq_P N xs 220 0 [some (iq_r 77), some (iq_i d), some (iq_i o)] [] g l Q := by
  unfold aAlike at q
  refine B220_77 _ _ _ _ (sp153 hs hd (fun g' k0 k1 k2 a b => ⟨_, rfl, by omega, fun h => by omega, fun _ => ?_⟩) (fun g' k0 k1 a => ⟨_, rfl, by omega, fun _ => sp98 ⟨_, rfl, ?_⟩, fun h => by omega⟩))
  · refine sp153 (hs.keep k0) he (fun g2 m0 m1 m2 a' b' => ⟨_, rfl, by omega, fun _ => ?_, fun h => by omega⟩) (fun g2 m0 m1 a' => ⟨_, rfl, by omega, fun h => by omega, fun _ => sp98 ⟨_, rfl, ?_⟩⟩)
    · rw [k0.p24] at m2 b'
      rw [if_pos ⟨⟨a, b⟩, a', b'⟩] at q
      refine sp217 hs.1 m2 ⟨a, b⟩ ⟨a', b'⟩ (fun c => ⟨_, rfl, by omega, fun h => by omega, fun _ => sp115 ⟨_, rfl, ?_⟩⟩) (fun c => ⟨_, rfl, by omega, fun _ => sp115 ⟨_, rfl, ?_⟩, fun h => by omega⟩)
      · rw [if_pos c] at q
        exact q _ _ ((k0.trans m0).uz iq_sx771) (by simp [iq_uz, m1, k1]) (by simp [iq_uz])
      · rw [if_neg (by rw [c]; decide)] at q
        exact q _ _ ((k0.trans m0).uz iq_sx771) (by simp [iq_uz, m1, k1]) (by simp [iq_uz])
    · rw [k0.p24] at a'
      rw [if_neg (fun e => a' e.2)] at q
      exact q _ _ ((k0.trans m0).uz iq_sx771) (by simp [iq_uz, m1, k1]) (by simp [iq_uz])
  · rw [if_neg (fun e => a e.1)] at q
    exact q _ _ (k0.uz iq_sx771) (by simp [iq_uz, k1]) (by simp [iq_uz])
/-! how many unlike modes -/
def sf_ex (f : Int → Bool) : Nat → Bool
  | 0 => false
  | n + 1 => sf_ex f n || f n
def aModes (P : Int → Int) : Int := iq_cn (fun d => !sf_ex (sf_ak P d) d.toNat) (iq_m P).toNat
theorem sf_akc (P : Int → Int) (d o : Int) : sf_ak P d o = sf_ak P o d := by
  refine iq_beq ?_
  unfold sf_ak
  rw [sf_awi, sf_awi]
  constructor <;> intro h k a b <;> have := h k a b <;> rw [decide_eq_true_eq] at this ⊢ <;> exact this.symm
theorem sp218i {N : Nat} {xs : Nat → Int32} {Q : iq_T} {g : iq_I} {l : iq_J} {P : Int → Int} (hp : iq_pb P) (hl : iq_LS g P) {d v : Int} (hd : 0 ≤ d ∧ d < iq_m P) (q : ∀ d3 d4, iq_P N xs 218 8 [some (iq_r 77), some (iq_i (v + (if sf_ex (sf_ak P d) d.toNat = true then 0 else 1))), some (iq_i (d + 1)), d3, d4] [] g l Q) (n : Nat) : ∀ o : Nat, (o : Int) + n = d → iq_P N xs 218 21 [some (iq_r 77), some (iq_i v), some (iq_i d), some (iq_i (if sf_ex (sf_ak P d) o = true then 0 else 1)), some (iq_i o)] [] g l Q := by
  have hm := iq_mR hp
  have hp3 := hp.2.2.2.1
  induction n with
  | zero =>
    intro o h
    rw [show d.toNat = o by omega] at q
    rcases hb : sf_ex (sf_ak P d) o with _ | _
    · rw [hb] at q
      exact B218_p21_77 _ _ _ _ _ _ ⟨by omega, fun h => ⟨by decide, fun h => by simp at h, fun _ => q _ _⟩, fun h => by omega⟩
    · rw [hb] at q
      exact B218_p21_77 _ _ _ _ _ _ ⟨by omega, fun h => ⟨by decide, fun _ => q _ _, fun h => by simp at h⟩, fun h => by omega⟩
  | succ n ih =>
    intro o h
    have := ih (o + 1) (by omega)
    rw [sf_ex] at this
    rcases hb : sf_ex (sf_ak P d) o with _ | _
    · rw [hb] at this
      refine B218_p21_77 _ _ _ _ _ _ ⟨by omega, fun h => by omega, fun h => ⟨by decide, fun h => by simp at h, fun _ => sp217 hp hl hd (by omega) (fun c => ⟨_, rfl, by omega, fun _ => ?_, fun h => by omega⟩) (fun c => ⟨_, rfl, by omega, fun h => by omega, fun _ => ?_⟩)⟩⟩
      · simp [c] at this
        exact this
      · simp [c] at this
        exact this
    · rw [hb] at this
      refine B218_p21_77 _ _ _ _ _ _ ⟨by omega, fun h => by omega, fun h => ⟨by decide, fun _ => ?_, fun h => by simp at h⟩⟩
      simp at this
      exact this
theorem sp218o {N : Nat} {xs : Nat → Int32} {Q : iq_T} {g : iq_I} {l : iq_J} {P : Int → Int} (hp : iq_pb P) (hl : iq_LS g P) (q : Q (some (iq_i (aModes P))) (iq_uz g 77 1 0) l) (n : Nat) : ∀ (d : Nat) (d3 d4 : Option iq_V), (d : Int) + n = iq_m P → iq_P N xs 218 8 [some (iq_r 77), some (iq_i (iq_cn (fun d => !sf_ex (sf_ak P d) d.toNat) d)), some (iq_i d), d3, d4] [] g l Q := by
  have hm := iq_mR hp
  have hp3 := hp.2.2.2.1
  have h26 := hl.1
  induction n with
  | zero =>
    intro d d3 d4 h
    unfold aModes at q
    rw [show (iq_m P).toNat = d by omega] at q
    exact B218_p8_77 _ _ _ _ _ _ ⟨by omega, fun h => sp115 ⟨_, rfl, q⟩, fun h => by omega⟩
  | succ n ih =>
    intro d d3 d4 h
    refine B218_p8_77 _ _ _ _ _ _ ⟨by omega, fun h => by omega, fun h => ?_⟩
    have := sp218i (N := N) (xs := xs) (Q := Q) (l := l) hp hl (d := d) (v := iq_cn (fun d => !sf_ex (sf_ak P d) d.toNat) d) (by omega) (fun d3 d4 => ?_) d 0 (by omega)
    · rw [sf_ex] at this
      simp at this
      exact this
    · have := ih (d + 1) d3 d4 (by omega)
      rw [iq_cn] at this
      rw [show ((d : Int)).toNat = d by omega] at this ⊢
      rcases hb : sf_ex (sf_ak P d) d with _ | _
      · simp [hb] at this ⊢
        exact this
      · simp [hb] at this ⊢
        exact this
theorem mModes {N : Nat} {xs : Nat → Int32} {Q : iq_T} {g : iq_I} {l : iq_J} (hs : iq_SR g l 23 24 25 0) (q : ∀ (g' : iq_I) (l' : iq_J), iq_KK g l g' l' → g' 0 0 = g 0 0 → g' 77 1 = 0 → Q (some (iq_i (aModes (g 24)))) g' l') : iq_P N xs 218 0 [some (iq_r 77), none, none, none, none] [] g l Q := by
  have hm := iq_mR hs.1
  refine B218_77 _ _ (sp114c hs (fun g' f1 f2 f3 => ⟨rfl, sp218o hs.1 f3 ?_ (iq_m (g 24)).toNat 0 none none (by omega)⟩))
  have h0 : g' 0 0 = g 0 0 := congrFun (f1 0 (by decide) (.inl (by decide))) 0
  exact q _ _ ((iq_KKl f1 f2).uz iq_sx771) (by simp [iq_uz, h0]) (by simp [iq_uz])
theorem sf_exm (f : Int → Bool) {a b : Nat} (h : a ≤ b) (e : sf_ex f a = true) : sf_ex f b = true := by
  induction b with
  | zero => rw [show a = 0 by omega] at e; exact e
  | succ b ih =>
    by_cases c : a = b + 1
    · rw [← c]; exact e
    · rw [sf_ex, ih (by omega)]; rfl
theorem sp216i {N : Nat} {xs : Nat → Int32} {Q : iq_T} {g : iq_I} {l : iq_J} {P : Int → Int} (hp : iq_pb P) (hf : ∀ t, iq_tb (l 31 1) t = iq_f P t) (h2 : g 31 2 = P 1) (h3 : g 31 3 = iq_m P) (ht : ∀ d, 0 ≤ d → d < iq_m P → g 32 d = iq_t P d) (hr : iq_RG g) {d v : Int} (hd : 0 ≤ d ∧ d < iq_m P) (q : ∀ d4 d5, iq_P N xs 216 9 [some (iq_r 0), some (iq_r 31), some (iq_i (v + (if sf_ex (sf_ak P d) d.toNat = true then 0 else 1))), some (iq_i (d + 1)), d4, d5] [] g l Q) (n : Nat) : ∀ o : Nat, (o : Int) + n = d → iq_P N xs 216 23 [some (iq_r 0), some (iq_r 31), some (iq_i v), some (iq_i d), some (iq_i (if sf_ex (sf_ak P d) o = true then 0 else 1)), some (iq_i o)] [] g l Q := by
  have hm := iq_mR hp
  have hp3 := hp.2.2.2.1
  induction n with
  | zero =>
    intro o h
    rw [show d.toNat = o by omega] at q
    rcases hb : sf_ex (sf_ak P d) o with _ | _
    · rw [hb] at q
      exact B216_p23_31 _ _ _ _ _ _ ⟨by omega, fun h => ⟨by decide, fun h => by simp at h, fun _ => q _ _⟩, fun h => by omega⟩
    · rw [hb] at q
      exact B216_p23_31 _ _ _ _ _ _ ⟨by omega, fun h => ⟨by decide, fun _ => q _ _, fun h => by simp at h⟩, fun h => by omega⟩
  | succ n ih =>
    intro o h
    have := ih (o + 1) (by omega)
    rw [sf_ex] at this
    rcases hb : sf_ex (sf_ak P d) o with _ | _
    · rw [hb] at this
      have hk := sf_ake (l := l) hp hf h2 ht (show (0 : Int) ≤ o by omega) (show (o : Int) < iq_m P by omega) hd.1 hd.2
      rw [sf_akc] at hk
      refine B216_p23_31 _ _ _ _ _ _ ⟨by omega, fun h => by omega, fun h => ⟨by decide, fun h => by simp at h, fun _ => sp215 hr ⟨by omega, by omega⟩ ⟨_, rfl, sp215 hr ⟨by omega, by omega⟩ ⟨_, rfl, iq_lcR _ _, fun c => ?_, fun c => ?_⟩⟩⟩⟩
      · rw [iq_lc0, hk] at c
        simp [c] at this
        exact this
      · rw [iq_lc0, hk] at c
        simp [c] at this
        exact this
    · have hq := sf_exm (sf_ak P d) (show o ≤ d.toNat by omega) hb
      rw [hq] at q
      refine B216_p23_31 _ _ _ _ _ _ ⟨by omega, fun h => by omega, fun h => ⟨by decide, fun _ => ⟨by decide, fun _ => q _ _, fun h => by simp at h⟩, fun h => by simp at h⟩⟩
theorem sp216o {N : Nat} {xs : Nat → Int32} {Q : iq_T} {g : iq_I} {l : iq_J} {P : Int → Int} (hp : iq_pb P) (hf : ∀ t, iq_tb (l 31 1) t = iq_f P t) (h2 : g 31 2 = P 1) (h3 : g 31 3 = iq_m P) (ht : ∀ d, 0 ≤ d → d < iq_m P → g 32 d = iq_t P d) (hr : iq_RG g) (q : Q (some (iq_i (aModes P))) (iq_uz g 0 0 0) l) (n : Nat) : ∀ (d : Nat) (d4 d5 : Option iq_V), (d : Int) + n = iq_m P → iq_P N xs 216 9 [some (iq_r 0), some (iq_r 31), some (iq_i (iq_cn (fun d => !sf_ex (sf_ak P d) d.toNat) d)), some (iq_i d), d4, d5] [] g l Q := by
  have hm := iq_mR hp
  have hp3 := hp.2.2.2.1
  induction n with
  | zero =>
    intro d d4 d5 h
    unfold aModes at q
    rw [show (iq_m P).toNat = d by omega] at q
    exact B216_p9_31 _ _ _ _ _ _ ⟨by omega, fun h => sp90 ⟨_, rfl, q⟩, fun h => by omega⟩
  | succ n ih =>
    intro d d4 d5 h
    refine B216_p9_31 _ _ _ _ _ _ ⟨by omega, fun h => by omega, fun h => ?_⟩
    have := sp216i (N := N) (xs := xs) (Q := Q) (l := l) hp hf h2 h3 ht hr (d := d) (v := iq_cn (fun d => !sf_ex (sf_ak P d) d.toNat) d) (by omega) (fun d4 d5 => ?_) d 0 (by omega)
    · rw [sf_ex] at this
      simp at this
      exact this
    · have := ih (d + 1) d4 d5 (by omega)
      rw [iq_cn] at this
      rw [show ((d : Int)).toNat = d by omega] at this ⊢
      rcases hb : sf_ex (sf_ak P d) d with _ | _
      · simp [hb] at this ⊢
        exact this
      · simp [hb] at this ⊢
        exact this
theorem cModes {N : Nat} {xs : Nat → Int32} {Q : iq_T} {g : iq_I} {l : iq_J} (hs : iq_SR g l 23 24 25 0) (q : ∀ (g' : iq_I) (l' : iq_J), iq_KK g l g' l' → g' 0 0 = 0 → Q (some (iq_i (aModes (g 24)))) g' l') : iq_P N xs 216 0 [some (iq_r 0), none, none, none, none, none] [] g l Q := by
  have hm := iq_mR hs.1
  refine B216_0 _ _ (sp137 hs (fun g' e1 e2 e3 e4 e5 => B216_q4_31 _ _ (sp216o hs.1 (fun t => ?_) e2 e3 e4 e5 (q _ _ ((iq_KKr e1).uz iq_sx00) (by simp [iq_uz])) (iq_m (g 24)).toNat 0 none none (by omega))))
  rw [show (iq_uz l 31 1 (l 23 4)) 31 1 = l 23 4 by simp [iq_uz]]
  exact hs.2.2.1 t
