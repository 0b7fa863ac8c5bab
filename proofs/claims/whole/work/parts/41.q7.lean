/-! modes, alike, brightness, modeBy. -/
theorem iq_sm_rot (F : Int → Int) {m d : Nat} (hd : d < m) : iq_sm (fun k => F (((d : Int) + k) % m)) m = iq_sm F m := by
  have e1 : m = (m - d) + d := by omega
  have e2 : m = d + (m - d) := by omega
  have a : iq_sm (fun k => F (((d : Int) + k) % m)) m = iq_sm (fun k => F ((d : Int) + k)) (m - d) + iq_sm F d := by
    have h := iq_sm_split (fun k => F (((d : Int) + k) % m)) (m - d) d
    rw [← e1] at h
    rw [h]
    congr 1
    · refine iq_sm_congr (fun i h1 h2 => ?_)
      rw [Int.emod_eq_of_lt (by omega) (by omega)]
    · refine iq_sm_congr (fun i h1 h2 => ?_)
      congr 1
      have h3 := Int.add_mul_emod_self_left i (m : Int) 1
      rw [show i + (m : Int) * 1 = (d : Int) + (((m - d : Nat) : Int) + i) by omega] at h3
      rw [h3]
      exact Int.emod_eq_of_lt h1 (by omega)
  have b : iq_sm F m = iq_sm F d + iq_sm (fun k => F ((d : Int) + k)) (m - d) := by
    have h := iq_sm_split F d (m - d)
    rw [← e2] at h
    exact h
  rw [a, b]; omega
def sf_bn (P : Int → Int) (d : Int) : Int := iq_sm (fun e => iq_bt (iq_t P) (P 1) d e) (iq_m P).toNat
theorem sf_bnR {P : Int → Int} (hp : iq_pb P) {d : Int} (h1 : 0 ≤ d) (h2 : d < iq_m P) : 0 ≤ sf_bn P d ∧ sf_bn P d ≤ 3600 := by
  have hm := iq_mR hp
  have hp1 := hp.2.1
  have h := iq_smR (f := fun e => iq_bt (iq_t P) (P 1) d e) (n := (iq_m P).toNat) (b := 60) (by omega) (fun i a b => by
    have := iq_btR (iq_trg hp) h1 h2 (show (0 : Int) ≤ (i : Int) by omega) (show (i : Int) < iq_m P by omega)
    omega)
  unfold sf_bn
  omega
/-- the sum of the spans is the sum over all degrees -/
theorem sf_bn_sp {P : Int → Int} (hp : iq_pb P) {d : Int} (h1 : 0 ≤ d) (h2 : d < iq_m P) : iq_sm (fun k => iq_sp (iq_t P) (iq_m P) (P 1) d k) (iq_m P).toNat = sf_bn P d := by
  have hm := iq_mR hp
  have e := iq_sm_rot (fun e => iq_bt (iq_t P) (P 1) d e) (m := (iq_m P).toNat) (d := d.toNat) (by omega)
  unfold sf_bn
  rw [← e]
  refine iq_sm_congr (fun k a b => ?_)
  unfold iq_sp
  rw [Int.ediv_eq_zero_of_lt a (by omega), Int.toNat_of_nonneg h1, Int.toNat_of_nonneg (by omega)]
  omega
def aBright (P : Int → Int) (d : Int) : Int × Int := if 0 ≤ d ∧ d < iq_m P then (sf_bn P d, 0) else (-1, 1)
theorem sf_bnb {g : iq_I} {P : Int → Int} (hp : iq_pb P) (h2 : g 31 2 = P 1) (h3 : g 31 3 = iq_m P) (ht : ∀ d, 0 ≤ d → d < iq_m P → g 32 d = iq_t P d) {d : Int} (a : 0 ≤ d) (b : d < iq_m P) : iq_sm (fun e => iq_bt (g 32) (g 31 2) d e) (g 31 3).toNat = sf_bn P d := by
  unfold sf_bn
  rw [h2, h3]
  exact iq_sm_congr (fun e c1 c2 => iq_bt_congr (ht d a b) (ht e c1 (by omega)))
theorem cBright {N : Nat} {xs : Nat → Int32} {Q : iq_T} {g : iq_I} {l : iq_J} {d : Int} (hs : iq_SR g l 23 24 25 0) (hd : -2147483648 ≤ d ∧ d ≤ 2147483647) (q : ∀ (g' : iq_I) (l' : iq_J), iq_KK g l g' l' → g' 0 0 = (aBright (g 24) d).2 → Q (some (iq_i (aBright (g 24) d).1)) g' l') : iq_P N xs 222 0 [some (iq_r 0), some (iq_i d)] [] g l Q := by
  unfold aBright at q
  have hm := iq_mR hs.1
  refine B222_0 _ _ _ (sp151 hs hd (fun a b => ⟨_, rfl, by omega, fun h => by omega, fun _ => sp137 hs (fun g' e1 e2 e3 e4 e5 => ?_)⟩) (fun a => ⟨_, rfl, by omega, fun _ => sp44 ⟨_, rfl, ?_⟩, fun h => by omega⟩))
  · rw [if_pos ⟨a, b⟩] at q
    refine B222_q13_31 _ _ _ (sp221 e5 ⟨a, by omega⟩ ⟨_, rfl, sp90 ⟨_, rfl, ?_⟩⟩)
    rw [sf_bnb hs.1 e2 e3 e4 a b]
    exact q _ _ ((iq_KKr e1).uz iq_sx00) (by simp [iq_uz])
  · rw [if_neg a] at q
    exact q _ _ ((iq_KK.refl _ _).uz iq_sx00) (by simp [iq_uz])
theorem sp223_p {N : Nat} {xs : Nat → Int32} {Q : iq_T} {g : iq_I} {l : iq_J} {P : Int → Int} (hp : iq_pb P) (hl : iq_LS g P) {d : Int} (hd : 0 ≤ d ∧ d < iq_m P) (q : Q (some (iq_i (sf_bn P d))) g l) (n : Nat) : ∀ k : Nat, (k : Int) + n = iq_m P → iq_P N xs 223 4 [some (iq_r 77), some (iq_i d), some (iq_i (iq_sm (fun k => iq_sp (iq_t P) (iq_m P) (P 1) d k) k)), some (iq_i k)] [] g l Q := by
  have hm := iq_mR hp
  have hp3 := hp.2.2.2.1
  have h26 := hl.1
  induction n with
  | zero =>
    intro k h
    rw [← sf_bn_sp hp hd.1 hd.2, show (iq_m P).toNat = k by omega] at q
    exact B223_p4_77 _ _ _ _ _ ⟨by omega, fun h => q, fun h => by omega⟩
  | succ n ih =>
    intro k h
    have := ih (k + 1) (by omega)
    rw [iq_sm] at this
    exact B223_p4_77 _ _ _ _ _ ⟨by omega, fun h => by omega, fun h => sp164 hp hl hd (by omega) ⟨_, rfl, this⟩⟩
theorem sp223 {N : Nat} {xs : Nat → Int32} {Q : iq_T} {g : iq_I} {l : iq_J} {P : Int → Int} (hp : iq_pb P) (hl : iq_LS g P) {d : Int} (hd : 0 ≤ d ∧ d < iq_m P) (q : Q (some (iq_i (sf_bn P d))) g l) : iq_P N xs 223 0 [some (iq_r 77), some (iq_i d), none, none] [] g l Q := by
  have hm := iq_mR hp
  have := sp223_p (N := N) (xs := xs) (Q := Q) (l := l) hp hl hd q (iq_m P - 1).toNat 1 (by omega)
  rw [iq_sm, iq_sm] at this
  have e : iq_sp (iq_t P) (iq_m P) (P 1) d ((0 : Nat) : Int) = 0 := iq_sp0 (by omega) hd.1 hd.2
  rw [e] at this
  exact B223_77 _ _ _ this
theorem mBright {N : Nat} {xs : Nat → Int32} {Q : iq_T} {g : iq_I} {l : iq_J} {d : Int} (hs : iq_SR g l 23 24 25 0) (hd : -2147483648 ≤ d ∧ d ≤ 2147483647) (q : ∀ (g' : iq_I) (l' : iq_J), iq_KK g l g' l' → g' 0 0 = g 0 0 → g' 77 1 = (aBright (g 24) d).2 → Q (some (iq_i (aBright (g 24) d).1)) g' l') : iq_P N xs 224 0 [some (iq_r 77), some (iq_i d)] [] g l Q := by
  unfold aBright at q
  refine B224_77 _ _ _ (sp153 hs hd (fun g' k0 k1 k2 a b => ⟨_, rfl, by omega, fun h => by omega, fun _ => sp223 hs.1 k2 ⟨a, b⟩ ⟨_, rfl, sp115 ⟨_, rfl, ?_⟩⟩⟩) (fun g' k0 k1 a => ⟨_, rfl, by omega, fun _ => sp98 ⟨_, rfl, ?_⟩, fun h => by omega⟩))
  · rw [if_pos ⟨a, b⟩] at q
    exact q _ _ (k0.uz iq_sx771) (by simp [iq_uz, k1]) (by simp [iq_uz])
  · rw [if_neg a] at q
    exact q _ _ (k0.uz iq_sx771) (by simp [iq_uz, k1]) (by simp [iq_uz])
/-! the order by brightness -/
def sf_rk (P : Int → Int) (d : Int) : Int → Bool := fun o => decide (sf_bn P o < sf_bn P d ∨ (sf_bn P o = sf_bn P d ∧ o < d))
def sf_rn (P : Int → Int) (d : Int) : Int := iq_cn (sf_rk P d) (iq_m P).toNat
def sf_mb (P : Int → Int) (k : Int) : Int := iq_nth (fun d => decide (sf_rn P d = k)) (iq_m P).toNat 0 0
def aModeBy (P : Int → Int) (k : Int) : Int × Int := if (0 ≤ k ∧ k < iq_m P) ∧ ¬ sf_mb P k = -1 then (sf_mb P k, 0) else (-1, 6)
theorem sp227i {N : Nat} {xs : Nat → Int32} {Q : iq_T} {g : iq_I} {l : iq_J} {P : Int → Int} (hp : iq_pb P) (hl : iq_LS g P) {k d : Int} (hk : -2147483648 ≤ k ∧ k ≤ 2147483647) (hd : 0 ≤ d ∧ d < iq_m P) (q1 : sf_rn P d = k → Q (some (iq_i d)) (iq_uz g 77 1 0) l) (q0 : ¬ sf_rn P d = k → ∀ d3 d4, iq_P N xs 227 17 [some (iq_r 77), some (iq_i k), some (iq_i (d + 1)), d3, d4] [] g l Q) (n : Nat) : ∀ o : Nat, (o : Int) + n = iq_m P → iq_P N xs 227 30 [some (iq_r 77), some (iq_i k), some (iq_i d), some (iq_i (iq_cn (sf_rk P d) o)), some (iq_i o)] [] g l Q := by
  have hm := iq_mR hp
  have hp3 := hp.2.2.2.1
  have h26 := hl.1
  induction n with
  | zero =>
    intro o h
    have hc := iq_cn_nonneg (sf_rk P d) o
    unfold sf_rn at q1 q0
    rw [show (iq_m P).toNat = o by omega] at q1 q0
    exact B227_p30_77 _ _ _ _ _ _ ⟨by omega, fun h => ⟨by omega, fun c => q0 c _ _, fun c => sp115 ⟨_, rfl, q1 c⟩⟩, fun h => by omega⟩
  | succ n ih =>
    intro o h
    have := ih (o + 1) (by omega)
    rw [iq_cn] at this
    have r1 := sf_bnR hp (show (0 : Int) ≤ o by omega) (show (o : Int) < iq_m P by omega)
    have r2 := sf_bnR hp hd.1 hd.2
    have ho : (0 : Int) ≤ o ∧ (o : Int) < iq_m P := by omega
    refine B227_p30_77 _ _ _ _ _ _ ⟨by omega, fun h => by omega, fun h => sp223 hp hl ho ⟨_, rfl, sp223 hp hl hd ⟨_, rfl, by omega, fun c => ?_, fun c => sp223 hp hl ho ⟨_, rfl, sp223 hp hl hd ⟨_, rfl, by omega, fun c2 => ?_, fun c2 => ⟨by omega, fun c3 => ?_, fun c3 => ?_⟩⟩⟩⟩⟩⟩
    · rw [if_pos (show sf_rk P d o = true from decide_eq_true (.inl c))] at this
      exact this
    · rw [if_neg (show ¬ sf_rk P d o = true from fun e => by unfold sf_rk at e; rw [decide_eq_true_eq] at e; omega)] at this
      exact this
    · rw [if_neg (show ¬ sf_rk P d o = true from fun e => by unfold sf_rk at e; rw [decide_eq_true_eq] at e; omega)] at this
      exact this
    · rw [if_pos (show sf_rk P d o = true from decide_eq_true (.inr ⟨c2, c3⟩))] at this
      exact this
theorem sp227o {N : Nat} {xs : Nat → Int32} {Q : iq_T} {g : iq_I} {l : iq_J} {P : Int → Int} (hp : iq_pb P) (hl : iq_LS g P) {k : Int} (hk : -2147483648 ≤ k ∧ k ≤ 2147483647) (n : Nat) : ∀ (d : Int) (d3 d4 : Option iq_V), 0 ≤ d → d + n = iq_m P → (iq_nth (fun d => decide (sf_rn P d = k)) n d 0 = -1 → Q (some (iq_i (-1))) (iq_uz g 77 1 6) l) → (¬ iq_nth (fun d => decide (sf_rn P d = k)) n d 0 = -1 → Q (some (iq_i (iq_nth (fun d => decide (sf_rn P d = k)) n d 0))) (iq_uz g 77 1 0) l) → iq_P N xs 227 17 [some (iq_r 77), some (iq_i k), some (iq_i d), d3, d4] [] g l Q := by
  have hm := iq_mR hp
  have hp3 := hp.2.2.2.1
  have h26 := hl.1
  induction n with
  | zero =>
    intro d d3 d4 h1 h q1 q0
    exact B227_p17_77 _ _ _ _ _ _ ⟨by omega, fun h => sp98 ⟨_, rfl, q1 rfl⟩, fun h => by omega⟩
  | succ n ih =>
    intro d d3 d4 h1 h q1 q0
    rw [iq_nth] at q1 q0
    refine B227_p17_77 _ _ _ _ _ _ ⟨by omega, fun h => by omega, fun h => sp227i hp hl hk (d := d) (by omega) (fun c => ?_) (fun c d3 d4 => ?_) (iq_m P).toNat 0 (by omega)⟩
    · rw [if_pos (decide_eq_true c), if_pos rfl] at q0
      exact q0 (by omega)
    · rw [if_neg (fun e => c (of_decide_eq_true e))] at q1 q0
      exact ih (d + 1) d3 d4 (by omega) (by omega) q1 q0
theorem mModeBy {N : Nat} {xs : Nat → Int32} {Q : iq_T} {g : iq_I} {l : iq_J} {k : Int} (hs : iq_SR g l 23 24 25 0) (hd : -2147483648 ≤ k ∧ k ≤ 2147483647) (q : ∀ (g' : iq_I) (l' : iq_J), iq_KK g l g' l' → g' 0 0 = g 0 0 → g' 77 1 = (aModeBy (g 24) k).2 → Q (some (iq_i (aModeBy (g 24) k).1)) g' l') : iq_P N xs 227 0 [some (iq_r 77), some (iq_i k), none, none, none] [] g l Q := by
  unfold aModeBy at q
  have hm := iq_mR hs.1
  refine B227_77 _ _ _ (sp153 hs hd (fun g' k0 k1 k2 a b => ⟨_, rfl, by omega, fun _ => sp227o hs.1 k2 hd (iq_m (g 24)).toNat 0 none none (by omega) (by omega) (fun c => ?_) (fun c => ?_), fun h => by omega⟩) (fun g' k0 k1 a => ⟨_, rfl, by omega, fun h => by omega, fun _ => sp98 ⟨_, rfl, ?_⟩⟩))
  · rw [if_neg (fun e => e.2 c)] at q
    exact q _ _ (k0.uz iq_sx771) (by simp [iq_uz, k1]) (by simp [iq_uz])
  · rw [if_pos ⟨⟨a, b⟩, c⟩] at q
    exact q _ _ (k0.uz iq_sx771) (by simp [iq_uz, k1]) (by simp [iq_uz])
  · rw [if_neg (fun e => a e.1)] at q
    exact q _ _ (k0.uz iq_sx771) (by simp [iq_uz, k1]) (by simp [iq_uz])
theorem sp226a {N : Nat} {xs : Nat → Int32} {Q : iq_T} {g : iq_I} {l0 : iq_J} {P : Int → Int} {k : Int} (hp : iq_pb P) (h2 : g 31 2 = P 1) (h3 : g 31 3 = iq_m P) (ht : ∀ d, 0 ≤ d → d < iq_m P → g 32 d = iq_t P d) (hr : iq_RG g) (q : ∀ l' : iq_J, (∀ j, ¬ j = 39 → l' j = l0 j) → (∀ d, 0 ≤ d → d < iq_m P → (l' 39 d).toInt = sf_bn P d) → iq_P N xs 226 59 [some (iq_r 0), some (iq_i k), some (iq_r 31), some (iq_i 0)] [] g l' Q) (n : Nat) : ∀ (d : Int) (l : iq_J), 0 ≤ d → d + n = iq_m P → (∀ j, ¬ j = 39 → l j = l0 j) → (∀ e, 0 ≤ e → e < d → (l 39 e).toInt = sf_bn P e) → iq_P N xs 226 22 [some (iq_r 0), some (iq_i k), some (iq_r 31), some (iq_i d)] [] g l Q := by
  have hm := iq_mR hp
  have hp1 := hp.2.1
  induction n with
  | zero =>
    intro d l h1 h f1 f2
    exact B226_p22_31 _ _ _ _ ⟨by omega, fun h => q l f1 (fun e a b => f2 e a (by omega)), fun h => by omega⟩
  | succ n ih =>
    intro d l h1 h f1 f2
    have r := sf_bnR hp h1 (show d < iq_m P by omega)
    refine B226_p22_31 _ _ _ _ ⟨by omega, fun h => by omega, fun h => ⟨by omega, fun h => by omega, fun h => sp221 hr ⟨h1, by omega⟩ ⟨_, rfl, by omega, ih (d + 1) _ (by omega) (by omega) (fun j a => ?_) (fun e a b => ?_)⟩⟩⟩
    · rw [← f1 j a]; funext i; simp [iq_uz, a]
    · by_cases c : e = d
      · subst c
        rw [sf_bnb hp h2 h3 ht h1 (by omega)]
        simp [iq_uz]
        exact iq_i2lv (by omega) (by omega)
      · rw [← f2 e a (by omega)]; simp [iq_uz, c]
theorem sp225_p {N : Nat} {xs : Nat → Int32} {Q : iq_T} {g : iq_I} {l : iq_J} {P : Int → Int} {d : Int} (hp : iq_pb P) (hd : 0 ≤ d ∧ d < iq_m P) (hl : ∀ d, 0 ≤ d → d < iq_m P → (l 39 d).toInt = sf_bn P d) (q : Q (some (iq_i (sf_rn P d))) g l) (n : Nat) : ∀ (o : Nat) (d5 : Option iq_V), (o : Int) + n = iq_m P → iq_P N xs 225 5 [some (iq_r 0), some (iq_i d), some (iq_i (iq_m P)), some (iq_i (iq_cn (sf_rk P d) o)), some (iq_i o), d5] [] g l Q := by
  have hm := iq_mR hp
  have hp1 := hp.2.1
  induction n with
  | zero =>
    intro o d5 h
    unfold sf_rn at q
    rw [show (iq_m P).toNat = o by omega] at q
    exact B225_p5_0 _ _ _ _ _ _ _ ⟨by omega, fun h => q, fun h => by omega⟩
  | succ n ih =>
    intro o d5 h
    have := fun d5 => ih (o + 1) d5 (by omega)
    rw [iq_cn] at this
    have e1 := hl o (by omega) (by omega)
    have e2 := hl d hd.1 hd.2
    refine B225_p5_0 _ _ _ _ _ _ _ ⟨by omega, fun h => by omega, fun h => ⟨by omega, fun h => by omega, fun h => ⟨by omega, fun h => by omega, fun h => ⟨by omega, by omega, iq_lcR _ _, fun c => ?_, fun c => ⟨by omega, by omega, iq_lcR _ _, fun c2 => ?_, fun c2 => ⟨by omega, fun c3 => ?_, fun c3 => ?_⟩⟩⟩⟩⟩⟩
    · rw [iq_lclt, e1, e2] at c
      rw [if_pos (show sf_rk P d o = true from decide_eq_true (.inl c))] at this
      exact this _
    · rw [iq_lcge, e1, e2] at c
      have c2' : ¬ sf_bn P o = sf_bn P d := fun e => c2 (iq_lc0.mpr (Int64.toInt_inj.mp (by rw [e1, e2, e])))
      rw [if_neg (show ¬ sf_rk P d o = true from fun e => by unfold sf_rk at e; rw [decide_eq_true_eq] at e; omega)] at this
      exact this _
    · rw [iq_lcge, e1, e2] at c
      rw [if_neg (show ¬ sf_rk P d o = true from fun e => by unfold sf_rk at e; rw [decide_eq_true_eq] at e; omega)] at this
      exact this _
    · rw [iq_lc0] at c2
      have c2' : sf_bn P o = sf_bn P d := by rw [← e1, ← e2, c2]
      rw [if_pos (show sf_rk P d o = true from decide_eq_true (.inr ⟨c2', c3⟩))] at this
      exact this _
theorem sp226b {N : Nat} {xs : Nat → Int32} {Q : iq_T} {g : iq_I} {l : iq_J} {P : Int → Int} {k : Int} (hk : -2147483648 ≤ k ∧ k ≤ 2147483647) (hp : iq_pb P) (h3 : g 31 3 = iq_m P) (hl : ∀ d, 0 ≤ d → d < iq_m P → (l 39 d).toInt = sf_bn P d) (n : Nat) : ∀ (d : Int), 0 ≤ d → d + n = iq_m P → (iq_nth (fun d => decide (sf_rn P d = k)) n d 0 = -1 → Q (some (iq_i (-1))) (iq_uz g 0 0 6) l) → (¬ iq_nth (fun d => decide (sf_rn P d = k)) n d 0 = -1 → Q (some (iq_i (iq_nth (fun d => decide (sf_rn P d = k)) n d 0))) (iq_uz g 0 0 0) l) → iq_P N xs 226 59 [some (iq_r 0), some (iq_i k), some (iq_r 31), some (iq_i d)] [] g l Q := by
  have hm := iq_mR hp
  have hp1 := hp.2.1
  induction n with
  | zero =>
    intro d h1 h q1 q0
    exact B226_p59_31 _ _ _ _ ⟨by omega, fun h => sp44 ⟨_, rfl, q1 rfl⟩, fun h => by omega⟩
  | succ n ih =>
    intro d h1 h q1 q0
    rw [iq_nth] at q1 q0
    refine B226_p59_31 _ _ _ _ ⟨by omega, fun h => by omega, fun h => ?_⟩
    rw [h3]
    have hc := iq_cn_nonneg (sf_rk P d) (iq_m P).toNat
    have hc2 : 0 ≤ sf_rn P d ∧ sf_rn P d ≤ 60 := by unfold sf_rn; omega
    refine B225_0 _ _ _ _ (sp225_p hp ⟨h1, by omega⟩ hl ⟨_, rfl, by omega, fun c => ?_, fun c => sp90 ⟨_, rfl, ?_⟩⟩ (iq_m P).toNat 0 none (by omega))
    · rw [if_neg (fun e => c (of_decide_eq_true e))] at q1 q0
      exact ih (d + 1) (by omega) (by omega) q1 q0
    · rw [if_pos (decide_eq_true c), if_pos rfl] at q0
      exact q0 (by omega)
theorem cModeBy {N : Nat} {xs : Nat → Int32} {Q : iq_T} {g : iq_I} {l : iq_J} {k : Int} (hs : iq_SR g l 23 24 25 0) (hd : -2147483648 ≤ k ∧ k ≤ 2147483647) (q : ∀ (g' : iq_I) (l' : iq_J), iq_KK g l g' l' → g' 0 0 = (aModeBy (g 24) k).2 → Q (some (iq_i (aModeBy (g 24) k).1)) g' l') : iq_P N xs 226 0 [some (iq_r 0), some (iq_i k), none, none] [] g l Q := by
  unfold aModeBy at q
  have hm := iq_mR hs.1
  refine B226_0 _ _ _ (sp151 hs hd (fun a b => ⟨_, rfl, by omega, fun _ => sp137 hs (fun g' e1 e2 e3 e4 e5 => B226_q19_31 _ _ _ (sp226a hs.1 e2 e3 e4 e5 (fun l' f1 f2 => ?_) (iq_m (g 24)).toNat 0 _ (by omega) (by omega) (fun _ _ => rfl) (fun e a b => by omega))), fun h => by omega⟩) (fun a => ⟨_, rfl, by omega, fun h => by omega, fun _ => sp44 ⟨_, rfl, ?_⟩⟩))
  · have kk : iq_KK g l g' l' := by
      have k1 := iq_KKr (l := l) (x := l 23 4) e1
      refine k1.trans ⟨rfl, iq_co_of (fun j i hb => ?_), by rw [f1 0 (by decide)], by rw [f1 0 (by decide)], by rw [f1 77 (by decide)], by rw [f1 77 (by decide)]⟩
      rw [f1 j (fun e => by rw [e] at hb; simp [iq_sx] at hb)]
    refine sp226b hd hs.1 e3 f2 (iq_m (g 24)).toNat 0 (by omega) (by omega) (fun c => ?_) (fun c => ?_)
    · rw [if_neg (fun e => e.2 c)] at q
      exact q _ _ (kk.uz iq_sx00) (by simp [iq_uz])
    · rw [if_pos ⟨⟨a, b⟩, c⟩] at q
      exact q _ _ (kk.uz iq_sx00) (by simp [iq_uz])
  · rw [if_neg (fun e => a e.1)] at q
    exact q _ _ ((iq_KK.refl _ _).uz iq_sx00) (by simp [iq_uz])
