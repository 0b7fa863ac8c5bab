/-! Questions about degrees: both sides. -/
theorem iq_sx31 (k : Int) : iq_sx 31 k = true := by simp [iq_sx]
theorem iq_sx32 (k : Int) : iq_sx 32 k = true := by simp [iq_sx]
theorem iq_sx00 : iq_sx 0 0 = true := by simp [iq_sx]
theorem iq_sx771 : iq_sx 77 1 = true := by simp [iq_sx]
/-- behind degreesRing -/
theorem iq_KKr {g g' : iq_I} {l : iq_J} {x : Int64} (h : ∀ j, ¬ j = 31 → ¬ j = 32 → g' j = g j) : iq_KK g l g' (iq_uz l 31 1 x) := by
  refine ⟨iq_co_of (fun j k hb => ?_), iq_co_uz (iq_sx31 1), by simp [iq_uz], by simp [iq_uz], by simp [iq_uz], by simp [iq_uz]⟩
  rw [h j (fun e => by rw [e, iq_sx31] at hb; cases hb) (fun e => by rw [e, iq_sx32] at hb; cases hb)]
/-- behind laysScale -/
theorem iq_KKl {g g' : iq_I} {l : iq_J} (h : ∀ j, ¬ j = 77 → (j < 85 ∨ 88 < j) → g' j = g j) (h2 : ∀ k, ¬ k = 26 → ¬ k = 27 → g' 77 k = g 77 k) : iq_KK g l g' l := by
  refine iq_KK.ofg (fun j k hb => ?_)
  by_cases c : j = 77
  · subst c
    refine h2 k (fun e => ?_) (fun e => ?_)
    · rw [e] at hb; simp [iq_sx] at hb
    · rw [e] at hb; simp [iq_sx] at hb
  · refine congrFun (h j c ?_) k
    by_cases d : j < 85
    · exact .inl d
    · by_cases e : 88 < j
      · exact .inr e
      · have : j = 85 ∨ j = 86 ∨ j = 87 ∨ j = 88 := by omega
        rcases this with rfl | rfl | rfl | rfl <;> simp [iq_sx] at hb
theorem sp151 {N : Nat} {xs : Nat → Int32} {Q : iq_T} {g : iq_I} {l : iq_J} {d : Int} (hs : iq_SR g l 23 24 25 0) (h : -2147483648 ≤ d ∧ d ≤ 2147483647) (q1 : 0 ≤ d → d < iq_m (g 24) → Q (some (iq_i 1)) g l) (q0 : ¬ (0 ≤ d ∧ d < iq_m (g 24)) → Q (some (iq_i 0)) g l) : iq_P N xs 151 0 [some (iq_r 0), some (iq_i d)] [] g l Q := by
  have hm := iq_mR hs.1
  have hp3 := hs.1.2.2.2.1
  refine B151_0 _ _ _ ⟨by omega, fun c => q0 (by omega), fun c => sp89_23 ⟨_, rfl, ?_⟩⟩
  rw [iq_cn64 hs.1 hs.2.2.1]
  exact ⟨by omega, fun c2 => q0 (by omega), fun c2 => q1 c c2⟩
theorem sp146 {N : Nat} {xs : Nat → Int32} {Q : iq_T} {g : iq_I} {l : iq_J} {k : Int} (h : -2147483648 ≤ k ∧ k ≤ 2147483647) (q1 : ¬ (-60 ≤ k ∧ k ≤ 60) → Q (some (iq_i 1)) g l) (q0 : -60 ≤ k → k ≤ 60 → Q (some (iq_i 0)) g l) : iq_P N xs 146 0 [some (iq_i k)] [] g l Q := by
  refine B146 _ _ _ ⟨by omega, fun c => q1 (by omega), fun c => ⟨by omega, fun c2 => q0 c c2, fun c2 => q1 (by omega)⟩⟩
theorem sp149 {N : Nat} {xs : Nat → Int32} {Q : iq_T} {g : iq_I} {l : iq_J} {a b c : Int64} (q1 : b.toInt ≤ a.toInt → a.toInt ≤ c.toInt → Q (some (iq_i 1)) g l) (q0 : ¬ (b.toInt ≤ a.toInt ∧ a.toInt ≤ c.toInt) → Q (some (iq_i 0)) g l) : iq_P N xs 149 0 [some (iq_l a), none, some (iq_l b), none, some (iq_l c), none] [] g l Q := by
  refine B149 _ _ _ _ _ ⟨iq_lcR _ _, fun h => q0 ?_, fun h => ⟨iq_lcR _ _, fun h2 => q0 ?_, fun h2 => q1 ?_ ?_⟩⟩
  · rw [iq_lclt] at h; omega
  · rw [iq_lcgt] at h2; omega
  · rw [iq_lcge] at h; exact h
  · rw [iq_lcle] at h2; exact h2
theorem sp156 {N : Nat} {xs : Nat → Int32} {Q : iq_T} {g : iq_I} {l : iq_J} {t : Int} (hs : iq_SR g l 23 24 25 0) (h : 0 ≤ t ∧ t < 60) (q : Q (some (iq_i (iq_cn (iq_f (g 24)) t.toNat))) g l) : iq_P N xs 156 0 [some (iq_r 0), some (iq_i t)] [] g l Q := by
  refine B156_0 _ _ _ (sp6 (by omega) ⟨_, rfl, sp88 ⟨_, rfl, ?_⟩⟩)
  have e : iq_cn (iq_tb (l 23 4 &&& (iq_of t - 1))) 64 = iq_cn (iq_f (g 24)) t.toNat := by
    rw [iq_cn_ext (a := t.toNat) (b := 64) (by omega) (fun i a b => ?_)]
    · refine iq_cn_congr (fun i a b => ?_)
      rw [iq_tb_and, iq_tbbl (by omega) (by omega), hs.2.2.1]
      simp [a, show i < t by omega]
    · rw [iq_tb_and, iq_tbbl (by omega) (by omega)]
      simp [show ¬ i < t by omega]
  rw [e]; exact q
theorem sp153 {N : Nat} {xs : Nat → Int32} {Q : iq_T} {g : iq_I} {l : iq_J} {d : Int} (hs : iq_SR g l 23 24 25 0) (h : -2147483648 ≤ d ∧ d ≤ 2147483647) (q1 : ∀ g' : iq_I, iq_KK g l g' l → g' 0 0 = g 0 0 → iq_LS g' (g 24) → 0 ≤ d → d < iq_m (g 24) → Q (some (iq_i 1)) g' l) (q0 : ∀ g' : iq_I, iq_KK g l g' l → g' 0 0 = g 0 0 → ¬ (0 ≤ d ∧ d < iq_m (g 24)) → Q (some (iq_i 0)) g' l) : iq_P N xs 153 0 [some (iq_r 77), some (iq_i d)] [] g l Q := by
  have hm := iq_mR hs.1
  have hp3 := hs.1.2.2.2.1
  refine B153_77 _ _ _ (sp114c hs (fun g' a b c => ⟨rfl, ?_⟩))
  have hk := iq_KKl (l := l) a b
  have h0 : g' 0 0 = g 0 0 := congrFun (a 0 (by decide) (.inl (by decide))) 0
  rw [c.1]
  exact ⟨by omega, fun c2 => q0 g' hk h0 (by omega), fun c2 => ⟨by omega, fun c3 => q0 g' hk h0 (by omega), fun c3 => q1 g' hk h0 c c2 c3⟩⟩
/-! sizes of steps -/
def iq_sy (P : Int → Int) : Int → Bool := iq_dg (fun d => iq_sp (iq_t P) (iq_m P) (P 1) d 1) (iq_m P).toNat
theorem iq_szR {P : Int → Int} (hp : iq_pb P) {v : Int} (h : iq_sy P v = true) : 0 < v ∧ v ≤ P 1 := by
  obtain ⟨j, j1, j2, j3⟩ := iq_dgi.mp h
  have := iq_sp1 (iq_trg hp) j1 (show j < iq_m P by omega)
  try dsimp only at j3
  omega
def iq_sn (P : Int → Int) : Int := iq_cn (iq_sy P) ((P 1).toNat + 1)
theorem iq_snR {P : Int → Int} (hp : iq_pb P) : 0 ≤ iq_sn P ∧ iq_sn P ≤ 24 := by
  have h1 := iq_cn_dg (fun d => iq_sp (iq_t P) (iq_m P) (P 1) d 1) (iq_m P).toNat ((P 1).toNat + 1)
  have h2 := iq_cn_nonneg (iq_sy P) ((P 1).toNat + 1)
  have h3 := iq_mR hp
  have h4 := hp.2.2.2.1
  unfold iq_sn iq_sy at *
  omega
theorem iq_sn64 {P : Int → Int} (hp : iq_pb P) : iq_cn (iq_sy P) 64 = iq_sn P := by
  have hp1 := hp.2.1
  unfold iq_sn
  refine iq_cn_ext (by omega) (fun i a b => ?_)
  rcases hb : iq_sy P i with _ | _
  · rfl
  · have := iq_szR hp hb; omega
/-- the set of sizes, as the class finds it -/
theorem iq_szb {g : iq_I} {P : Int → Int} (hp : iq_pb P) (h2 : g 31 2 = P 1) (h3 : g 31 3 = iq_m P) (ht : ∀ d, 0 ≤ d → d < iq_m P → g 32 d = iq_t P d) {y : Int64} (hy : ∀ t, iq_tb y t = true ↔ ∃ d, 0 ≤ d ∧ d < g 31 3 ∧ iq_sp (g 32) (g 31 3) (g 31 2) d 1 = t) (t : Int) : iq_tb y t = iq_sy P t := by
  have hm := iq_mR hp
  have : iq_tb y t = true ↔ iq_sy P t = true := by
    rw [hy t]
    unfold iq_sy
    rw [iq_dgi, h2, h3]
    constructor
    · rintro ⟨d, a, b, c⟩
      exact ⟨d, a, by omega, by rw [← c]; exact (iq_sp_congr (by omega) ht a b).symm⟩
    · rintro ⟨d, a, b, c⟩
      exact ⟨d, a, by omega, by rw [← c]; exact iq_sp_congr (by omega) ht a (by omega)⟩
  rcases hb : iq_sy P t with _ | _
  · rcases hc : iq_tb y t with _ | _
    · rfl
    · rw [this.mp hc] at hb; cases hb
  · exact this.mpr hb
/-- the k-th of the sizes -/
def iq_sk (P : Int → Int) (k : Int) : Int := if k < 0 then -1 else iq_nth (iq_sy P) 64 0 k
theorem iq_skv {P : Int → Int} (hp : iq_pb P) {k : Int} : (0 ≤ k → k < iq_sn P → ∃ v : Nat, (v : Int) ≤ P 1 ∧ 0 < v ∧ iq_sy P v = true ∧ iq_cn (iq_sy P) v = k ∧ iq_sk P k = v) ∧ (¬ (0 ≤ k ∧ k < iq_sn P) → iq_sk P k = -1) := by
  have hp1 := hp.2.1
  constructor
  · intro h1 h2
    obtain ⟨v, v1, v2, v3⟩ := iq_cn_sur (iq_sy P) ((P 1).toNat + 1) k h1 h2
    have hr := iq_szR hp v2
    refine ⟨v, by omega, by omega, v2, v3, ?_⟩
    unfold iq_sk
    rw [if_neg (by omega)]
    exact iq_nth_shift _ 64 0 k v (by omega) (by omega) v2 (by rw [v3]; show k - 0 = k; omega)
  · intro h
    unfold iq_sk
    by_cases c : k < 0
    · rw [if_pos c]
    · rw [if_neg c]
      refine iq_nth_none _ 64 0 k ?_
      rw [Nat.zero_add, iq_sn64 hp]
      show _ - (0 : Int) ≤ _
      omega
theorem iq_pk_sk {P : Int → Int} {y : Int64} (h : ∀ t, iq_tb y t = iq_sy P t) (k : Int) : iq_pk y k = iq_sk P k := by
  unfold iq_pk iq_sk
  rw [iq_nth_congr 64 0 k (fun t _ _ => h t)]
theorem sp169 {N : Nat} {xs : Nat → Int32} {Q : iq_T} {g : iq_I} {l : iq_J} {k : Int} (hs : iq_SR g l 23 24 25 0) (h : -2147483648 ≤ k ∧ k ≤ 2147483647) (q1 : ∀ g' : iq_I, iq_KK g l g' l → g' 0 0 = g 0 0 → iq_LS g' (g 24) → 0 ≤ k → k < iq_sn (g 24) → Q (some (iq_i 1)) g' l) (q0 : ∀ g' : iq_I, iq_KK g l g' l → g' 0 0 = g 0 0 → ¬ (0 ≤ k ∧ k < iq_sn (g 24)) → Q (some (iq_i 0)) g' l) : iq_P N xs 169 0 [some (iq_r 77), some (iq_i k)] [] g l Q := by
  have hm := iq_snR hs.1
  refine B169_77 _ _ _ (sp114c hs (fun g' a b c => ⟨rfl, ?_⟩))
  have hk := iq_KKl (l := l) a b
  have h0 : g' 0 0 = g 0 0 := congrFun (a 0 (by decide) (.inl (by decide))) 0
  have e : g' 77 27 = iq_sn (g 24) := c.2.2.2.2.1
  rw [e]
  exact ⟨by omega, fun c2 => q0 g' hk h0 (by omega), fun c2 => ⟨by omega, fun c3 => q0 g' hk h0 (by omega), fun c3 => q1 g' hk h0 c c2 c3⟩⟩
theorem sp164_p {N : Nat} {xs : Nat → Int32} {Q : iq_T} {g : iq_I} {l : iq_J} {d n0 m : Int} {c : Int → Int} (hm : g 77 26 = m) (hm24 : 0 < m ∧ m ≤ 24) (hd : 0 ≤ d ∧ d < m) (hn0 : 0 ≤ n0 ∧ n0 ≤ 100) (hc : ∀ d, 0 ≤ d → d < m → g 86 d = c d) (q : Q (some (iq_i (iq_sm (fun k => c ((d + k) % m)) n0.toNat))) g l) (n : Nat) : ∀ (k : Nat), (k : Int) + n = n0 → iq_P N xs 164 5 [some (iq_r 77), some (iq_i d), some (iq_i n0), some (iq_i (iq_sm (fun k => c ((d + k) % m)) k)), some (iq_i k)] [] g l Q := by
  induction n with
  | zero =>
    intro k h2
    rw [show n0.toNat = k by omega] at q
    exact B164_p5_77 _ _ _ _ _ _ ⟨by omega, fun h => q, fun h => by omega⟩
  | succ n ih =>
    intro k h2
    have := ih (k + 1) (by omega)
    rw [iq_sm] at this
    have e1 := Int.emod_nonneg (d + k) (show m ≠ 0 by omega)
    have e2 := Int.emod_lt_of_pos (d + k) hm24.1
    refine B164_p5_77 _ _ _ _ _ _ ⟨by omega, fun h => by omega, fun h => ?_⟩
    rw [hm, Int.tmod_eq_emod_of_nonneg (by omega), hc _ e1 e2]
    exact ⟨by omega, by omega, this⟩
theorem sp164 {N : Nat} {xs : Nat → Int32} {Q : iq_T} {g : iq_I} {l : iq_J} {P : Int → Int} {d n0 : Int} (hp : iq_pb P) (hl : iq_LS g P) (hd : 0 ≤ d ∧ d < iq_m P) (hn0 : 0 ≤ n0 ∧ n0 ≤ 100) (q : Q (some (iq_i (iq_sp (iq_t P) (iq_m P) (P 1) d n0))) g l) : iq_P N xs 164 0 [some (iq_r 77), some (iq_i d), some (iq_i n0), none, none] [] g l Q := by
  have hm := iq_mR hp
  have hp3 := hp.2.2.2.1
  refine B164_77 _ _ _ _ (sp164_p (m := iq_m P) (c := fun d => iq_sp (iq_t P) (iq_m P) (P 1) d 1) hl.1 (by omega) hd hn0 hl.2.2.2.1 ?_ n0.toNat 0 (by omega))
  have := iq_sp_sum (iq_trg hp) hd.1 hd.2 n0.toNat
  try dsimp only
  rw [this, Int.toNat_of_nonneg hn0.1]
  exact q
theorem sp173_p {N : Nat} {xs : Nat → Int32} {Q : iq_T} {g : iq_I} {l : iq_J} {k m : Int} {c : Int → Int} (hm : g 77 26 = m) (hm24 : 0 ≤ m ∧ m ≤ 24) (hk : 0 ≤ k ∧ k < 24) (hc : ∀ d, 0 ≤ d → d < m → g 86 d = c d) (hcR : ∀ d, 0 ≤ d → d < m → 0 ≤ c d ∧ c d ≤ 1000) (h88 : 0 ≤ g 88 k ∧ g 88 k ≤ 1000) (q : Q (some (iq_i (iq_cn (fun d => decide (c d = g 88 k)) m.toNat))) g l) (n : Nat) : ∀ (i : Nat), (i : Int) + n = m → iq_P N xs 173 4 [some (iq_r 77), some (iq_i k), some (iq_i (iq_cn (fun d => decide (c d = g 88 k)) i)), some (iq_i i)] [] g l Q := by
  induction n with
  | zero =>
    intro i h2
    rw [show m.toNat = i by omega] at q
    exact B173_p4_77 _ _ _ _ _ ⟨by omega, fun h => q, fun h => by omega⟩
  | succ n ih =>
    intro i h2
    have := ih (i + 1) (by omega)
    rw [iq_cn] at this
    have e1 := hc i (by omega) (by omega)
    have e2 := hcR i (by omega) (by omega)
    refine B173_p4_77 _ _ _ _ _ ⟨by omega, fun h => by omega, fun h => ⟨by omega, by omega, by omega, fun x => ?_, fun x => ?_⟩⟩
    · rw [e1] at x
      rw [if_neg (by simpa using x)] at this
      exact this
    · rw [e1] at x
      rw [if_pos (by simpa using x)] at this
      exact this
theorem sp144_p {N : Nat} {xs : Nat → Int32} {Q : iq_T} {g : iq_I} {l : iq_J} {f : Int → Bool} (hf : ∀ t, 0 ≤ t → t < 60 → g 78 (20 + t) = if f t = true then 1 else 0) (q : Q (some (iq_i (iq_cn f 60))) g l) (n : Nat) : ∀ (i : Nat), i + n = 60 → iq_P N xs 144 4 [some (iq_r 77), some (iq_i (iq_cn f i)), some (iq_i i)] [] g l Q := by
  induction n with
  | zero =>
    intro i h2
    rw [show 60 = i by omega] at q
    exact B144_p4_77 _ _ _ _ ⟨by omega, fun h => q, fun h => by omega⟩
  | succ n ih =>
    intro i h2
    have := ih (i + 1) (by omega)
    rw [iq_cn] at this
    refine B144_p4_77 _ _ _ _ ⟨by omega, fun h => by omega, fun h => sp143 (by omega) ⟨_, rfl, ?_⟩⟩
    rw [hf i (by omega) (by omega)]
    exact this
theorem iq_SR.snd {g : iq_I} {l : iq_J} {S P R : Nat} (h : iq_SR g l S P R 0) : ∀ t, 0 ≤ t → t < 60 → g 78 (20 + t) = if iq_tb (l S 3) t = true then 1 else 0 := by
  intro t a b
  have := h.2.2.2.2.1 t a b
  rwa [Int.zero_add] at this
theorem sp144 {N : Nat} {xs : Nat → Int32} {Q : iq_T} {g : iq_I} {l : iq_J} (hs : iq_SR g l 23 24 25 0) (q : Q (some (iq_i (iq_cn (iq_tb (l 23 3)) 64))) g l) : iq_P N xs 144 0 [some (iq_r 77), none, none] [] g l Q := by
  have hp1 := hs.1.2.1
  refine B144_77 _ _ (sp144_p hs.snd ?_ 60 0 (by omega))
  rw [iq_cn_ext (a := 60) (b := 64) (by omega) (fun i a b => ?_)] at q
  · exact q
  · rcases hb : iq_tb (l 23 3) i with _ | _
    · rfl
    · have := hs.2.2.2.1 i hb; omega
