/-! Lengths that are well formed. -/
def sf_P3 (P : Int → Int) (n : Int) : Int → Int := fun k => if k = 3 then n else P k
theorem sf_P3e {P : Int → Int} {n k : Int} (h : ¬ k = 3) : sf_P3 P n k = P k := if_neg h
theorem sf_P33 {P : Int → Int} {n : Int} : sf_P3 P n 3 = n := if_pos rfl
theorem sf_P3b {P : Int → Int} {n : Int} (hp : iq_pb P) (h : 1 ≤ n ∧ n ≤ 24) : iq_pb (sf_P3 P n) := by
  obtain ⟨p0, p1, p2, p3, p4, p5, p6, p7, p8⟩ := hp
  unfold iq_pb
  rw [sf_P3e (k := 0) (by omega), sf_P3e (k := 1) (by omega), sf_P3e (k := 2) (by omega), sf_P33, sf_P3e (k := 4) (by omega), sf_P3e (k := 5) (by omega), sf_P3e (k := 6) (by omega), sf_P3e (k := 7) (by omega), sf_P3e (k := 8) (by omega)]
  exact ⟨p0, p1, p2, h, p4, p5, p6, p7, p8⟩
theorem sf_P3f {P : Int → Int} {n : Int} : iq_f (sf_P3 P n) = iq_dg (iq_ch (P 1) (P 4) (P 2) (P 5)) n.toNat := by
  unfold iq_f
  rw [sf_P3e (k := 1) (by omega), sf_P3e (k := 2) (by omega), sf_P33, sf_P3e (k := 4) (by omega), sf_P3e (k := 5) (by omega)]
theorem sf_LYS {g : iq_I} {P : Int → Int} (hp : iq_pb P) (c : iq_LY g (P 1) (iq_f P)) : iq_LS g P := by
  have hp1 := hp.2.1
  obtain ⟨c1, c2, c3, c4, c5, c6⟩ := c
  have hm := iq_mR hp
  have c1' : g 77 26 = iq_m P := c1
  have ht : ∀ d, 0 ≤ d → d < iq_m P → g 85 d = iq_t P d := fun d h1 h2 => iq_Tt hp c2 h1 h2
  have hsp : ∀ d, 0 ≤ d → d < iq_m P → iq_sp (g 85) (iq_m P) (P 1) d 1 = iq_sp (iq_t P) (iq_m P) (P 1) d 1 := fun d h1 h2 => iq_sp_congr (by omega) ht h1 h2
  have hst : iq_st g (P 1) = iq_dg (fun d => iq_sp (iq_t P) (iq_m P) (P 1) d 1) (iq_m P).toNat := by
    unfold iq_st
    rw [c1']
    exact iq_dg_congr (fun j h1 h2 => hsp j h1 (by omega))
  rw [hst] at c5 c6
  refine ⟨c1', ht, c3, fun d h1 h2 => ?_, c5, c6⟩
  rw [c4 d h1 (by omega), c1', hsp d h1 h2]
/-- the scale laid out with another length, in the model -/
theorem sp113c {N : Nat} {xs : Nat → Int32} {Q : iq_T} {g : iq_I} {l : iq_J} {n : Int} (hs : iq_SR g l 23 24 25 0) (hn : 1 ≤ n ∧ n ≤ 24) (q : ∀ g' : iq_I, (∀ j, ¬ j = 77 → (j < 85 ∨ 88 < j) → g' j = g j) → (∀ k, ¬ k = 26 → ¬ k = 27 → g' 77 k = g 77 k) → iq_LS g' (sf_P3 (g 24) n) → Q none g' l) : iq_P N xs 113 0 [some (iq_r 77), some (iq_i n), some (iq_i (g 78 2)), none, none, none, none] [] g l Q := by
  have hp := hs.1
  have h78 := hs.p78
  have hp1 := hp.2.1
  have hp2 := hp.2.2.1
  have e2 := h78 2 (by omega) (by omega)
  refine sp113 (iq_pb_congr h78 hp) (by omega) hn (fun g' a b c d e => q g' a b (sf_LYS (sf_P3b hp hn) ?_))
  rw [sf_P3f, sf_P3e (k := 1) (by omega)]
  rw [h78 1 (by omega) (by omega), h78 4 (by omega) (by omega), h78 2 (by omega) (by omega), h78 5 (by omega) (by omega)] at c
  exact c
def sf_wf (P : Int → Int) (n : Int) : Bool := decide (2 ≤ n) && decide (n ≤ 24) && decide (iq_m (sf_P3 P n) = n) && decide (iq_sn (sf_P3 P n) ≤ 2)
theorem sf_wfc {P : Int → Int} {n : Nat} (h1 : 25 ≤ n) : iq_cn (sf_wf P) n = iq_cn (sf_wf P) 25 := by
  refine iq_cn_ext h1 (fun i a b => ?_)
  unfold sf_wf
  rw [decide_eq_false (show ¬ i ≤ 24 by omega)]
  simp
def aLengths (P : Int → Int) : Int := iq_cn (sf_wf P) 25
theorem aLengthsR (P : Int → Int) : 0 ≤ aLengths P ∧ aLengths P ≤ 23 := by
  have e : aLengths P = iq_cn (sf_wf P) 25 := rfl
  have h := iq_cn_nonneg (sf_wf P) 25
  have h2 : iq_cn (sf_wf P) 2 = 0 := by
    simp [iq_cn, sf_wf]
  have h3 : ∀ k : Nat, iq_cn (sf_wf P) (2 + k) ≤ k := by
    intro k
    induction k with
    | zero => rw [h2]; omega
    | succ k ih =>
      rw [show 2 + (k + 1) = (2 + k) + 1 by omega, iq_cn]
      split <;> omega
  have := h3 23
  rw [show 2 + 23 = 25 by omega] at this
  omega
theorem sf_wfT {P : Int → Int} {n : Int} (h : 2 ≤ n ∧ n ≤ 24) (a : iq_m (sf_P3 P n) = n) (b : iq_sn (sf_P3 P n) ≤ 2) : sf_wf P n = true := by
  unfold sf_wf; simp [h.1, h.2, a, b]
theorem sf_wfF1 {P : Int → Int} {n : Int} (a : ¬ iq_m (sf_P3 P n) = n) : sf_wf P n = false := by
  unfold sf_wf; simp [a]
theorem sf_wfF2 {P : Int → Int} {n : Int} (a : ¬ iq_sn (sf_P3 P n) ≤ 2) : sf_wf P n = false := by
  unfold sf_wf; simp only [decide_eq_false a, Bool.and_false]
theorem sp211_p {N : Nat} {xs : Nat → Int32} {Q : iq_T} {g : iq_I} {l : iq_J} {k : Int} (hs : iq_SR g l 23 24 25 0) (hk : -2147483648 ≤ k ∧ k ≤ 2147483647) (q1 : 0 ≤ k → k < aLengths (g 24) → ∀ g' : iq_I, iq_KK g l g' l → g' 0 0 = g 0 0 → Q (some (iq_i (iq_nth (sf_wf (g 24)) 64 0 k))) g' l) (q0 : ¬ (0 ≤ k ∧ k < aLengths (g 24)) → ∀ g' : iq_I, iq_KK g l g' l → g' 0 0 = g 0 0 → Q (some (iq_i (aLengths (g 24)))) g' l) (n : Nat) : ∀ (i : Nat) (g1 : iq_I), i + n = 25 → 2 ≤ i → ¬ (0 ≤ k ∧ k < iq_cn (sf_wf (g 24)) i) → iq_KK g l g1 l → g1 0 0 = g 0 0 → iq_P N xs 211 4 [some (iq_r 77), some (iq_i k), some (iq_i (iq_cn (sf_wf (g 24)) i)), some (iq_i i)] [] g1 l Q := by
  induction n with
  | zero =>
    intro i g1 h h2 hc k0 k1
    rw [show i = 25 by omega] at hc ⊢
    exact B211_p4_77 _ _ _ _ _ ⟨by omega, fun _ => q0 hc g1 k0 k1, fun h => by omega⟩
  | succ n ih =>
    intro i g1 h h2 hc k0 k1
    have hc0 := iq_cn_nonneg (sf_wf (g 24)) i
    have hi : (1 : Int) ≤ (i : Int) ∧ (i : Int) ≤ 24 := by omega
    refine B211_p4_77 _ _ _ _ _ ⟨by omega, fun h => by omega, fun _ => sp113c (hs.keep k0) hi (fun g2 f1 f2 f3 => ⟨rfl, ?_⟩)⟩
    rw [k0.p24] at f3
    have e26 : g2 77 26 = iq_m (sf_P3 (g 24) i) := f3.1
    have e27 : g2 77 27 = iq_sn (sf_P3 (g 24) i) := f3.2.2.2.2.1
    have hp := sf_P3b hs.1 hi
    have hm := iq_mR hp
    rw [sf_P33] at hm
    have hn := iq_snR hp
    have kk := k0.trans (iq_KKl (l := l) f1 f2)
    have kz : g2 0 0 = g 0 0 := (congrFun (f1 0 (by decide) (.inl (by decide))) 0).trans k1
    have nx := ih (i + 1) g2 (by omega) (by omega)
    rw [iq_cn] at nx
    rw [e26, e27]
    refine ⟨by omega, fun c => ?_, fun c => ⟨by omega, fun d => ⟨by omega, fun e => ?_, fun e => ?_⟩, fun d => ?_⟩⟩
    · rw [sf_wfF1 (by omega)] at nx
      simp at nx
      exact nx (by omega) kk kz
    · rw [sf_wfT (by omega) (by omega) d] at nx
      simp at nx
      exact nx (by omega) kk kz
    · have w := sf_wfT (P := g 24) (n := i) (by omega) (by omega) d
      have lt := iq_cn_lt (f := sf_wf (g 24)) (show i < 25 by omega) w
      have q1 := q1 (by omega) (show k < iq_cn (sf_wf (g 24)) 25 by omega) g2 kk kz
      have en : iq_nth (sf_wf (g 24)) 64 0 k = i := iq_nth_shift (sf_wf (g 24)) 64 0 k i (by omega) (by omega) w (show iq_cn (sf_wf (g 24)) i - (0 : Int) = k by omega)
      rw [en] at q1
      exact q1
    · rw [sf_wfF2 (by omega)] at nx
      simp at nx
      exact nx (by omega) kk kz
theorem sp211 {N : Nat} {xs : Nat → Int32} {Q : iq_T} {g : iq_I} {l : iq_J} {k : Int} (hs : iq_SR g l 23 24 25 0) (hk : -2147483648 ≤ k ∧ k ≤ 2147483647) (q1 : 0 ≤ k → k < aLengths (g 24) → ∀ g' : iq_I, iq_KK g l g' l → g' 0 0 = g 0 0 → Q (some (iq_i (iq_nth (sf_wf (g 24)) 64 0 k))) g' l) (q0 : ¬ (0 ≤ k ∧ k < aLengths (g 24)) → ∀ g' : iq_I, iq_KK g l g' l → g' 0 0 = g 0 0 → Q (some (iq_i (aLengths (g 24)))) g' l) : iq_P N xs 211 0 [some (iq_r 77), some (iq_i k), none, none] [] g l Q := by
  have h2 : iq_cn (sf_wf (g 24)) 2 = 0 := by
    simp [iq_cn, sf_wf]
  have := sp211_p (N := N) (xs := xs) hs hk q1 q0 23 2 g (by omega) (by omega) (by rw [h2]; omega) (.refl g l) rfl
  rw [h2] at this
  exact B211_77 _ _ _ this
theorem sf_len1 {P : Int → Int} {k : Int} (h1 : 0 ≤ k) (h2 : k < aLengths P) : 2 ≤ iq_nth (sf_wf P) 64 0 k ∧ iq_nth (sf_wf P) 64 0 k ≤ 24 := by
  obtain ⟨t, a, b, c⟩ := iq_cn_sur (sf_wf P) 25 k h1 h2
  have en : iq_nth (sf_wf P) 64 0 k = t := iq_nth_shift (sf_wf P) 64 0 k t (by omega) (by omega) b (show iq_cn (sf_wf P) t - (0 : Int) = k by omega)
  rw [en]
  unfold sf_wf at b
  simp only [Bool.and_eq_true, decide_eq_true_eq] at b
  omega
theorem sf_len0 {P : Int → Int} {k : Int} (h : ¬ (0 ≤ k ∧ k < aLengths P)) : (if k < 0 then -1 else iq_nth (sf_wf P) 64 0 k) = -1 := by
  by_cases c : k < 0
  · rw [if_pos c]
  · rw [if_neg c]
    refine iq_nth_none (sf_wf P) 64 0 k ?_
    rw [show 0 + 64 = 64 by omega, sf_wfc (by omega)]
    have : aLengths P = iq_cn (sf_wf P) 25 := rfl
    show _ - (0 : Int) ≤ _
    omega
theorem mLengths {N : Nat} {xs : Nat → Int32} {Q : iq_T} {g : iq_I} {l : iq_J} (hs : iq_SR g l 23 24 25 0) (q : ∀ (g' : iq_I) (l' : iq_J), iq_KK g l g' l' → g' 0 0 = g 0 0 → g' 77 1 = 0 → Q (some (iq_i (aLengths (g 24)))) g' l') : iq_P N xs 212 0 [some (iq_r 77)] [] g l Q := by
  have hR := aLengthsR (g 24)
  exact B212_77 _ _ (sp211 hs (by omega) (fun a b => by omega) (fun _ g' k0 k1 => ⟨_, rfl, sp115 ⟨_, rfl, q _ _ (k0.uz iq_sx771) (by simp [iq_uz, k1]) (by simp [iq_uz])⟩⟩))
def aLengthAt (P : Int → Int) (k : Int) : Int × Int := if 0 ≤ k ∧ k < aLengths P then (iq_nth (sf_wf P) 64 0 k, 0) else (-1, 6)
theorem mLengthAt {N : Nat} {xs : Nat → Int32} {Q : iq_T} {g : iq_I} {l : iq_J} {k : Int} (hs : iq_SR g l 23 24 25 0) (hk : -2147483648 ≤ k ∧ k ≤ 2147483647) (q : ∀ (g' : iq_I) (l' : iq_J), iq_KK g l g' l' → g' 0 0 = g 0 0 → g' 77 1 = (aLengthAt (g 24) k).2 → Q (some (iq_i (aLengthAt (g 24) k).1)) g' l') : iq_P N xs 214 0 [some (iq_r 77), some (iq_i k), none] [] g l Q := by
  have hR := aLengthsR (g 24)
  unfold aLengthAt at q
  refine B214_77 _ _ _ (sp211 hs (by omega) (fun a b => by omega) (fun _ g' k0 k1 => ⟨_, rfl, by omega, fun c => ?_, fun c => ⟨by omega, fun d => ?_, fun d => ?_⟩⟩))
  · rw [if_neg (by omega)] at q
    exact sp98 ⟨_, rfl, q _ _ (k0.uz iq_sx771) (by simp [iq_uz, k1]) (by simp [iq_uz])⟩
  · rw [if_pos ⟨c, d⟩] at q
    have e := k0.p24
    refine sp211 (hs.keep k0) hk (fun a b g2 m0 m1 => ⟨_, rfl, sp115 ⟨_, rfl, ?_⟩⟩) (fun a => ?_)
    · rw [e]
      exact q _ _ ((k0.trans m0).uz iq_sx771) (by simp [iq_uz, k1, m1]) (by simp [iq_uz])
    · rw [e] at a; exact (a ⟨c, d⟩).elim
  · rw [if_neg (by omega)] at q
    exact sp98 ⟨_, rfl, q _ _ (k0.uz iq_sx771) (by simp [iq_uz, k1]) (by simp [iq_uz])⟩
/-! the class -/
theorem sp209_p {N : Nat} {xs : Nat → Int32} {Q : iq_T} {g : iq_I} {l : iq_J} (hs : iq_SR g l 23 24 25 0) (q : ∀ (g' : iq_I) (l' : iq_J) (x : Int64), iq_KK g l g' l' → (∀ t, iq_tb x t = sf_wf (g 24) t) → Q (some (iq_l x)) g' l') (n : Nat) : ∀ (i : Nat) (g1 : iq_I) (l1 : iq_J) (x : Int64) (d4 : Option iq_V), i + n = 25 → 2 ≤ i → iq_KK g l g1 l1 → (∀ t, iq_tb x t = (sf_wf (g 24) t && decide (t < i))) → iq_P N xs 209 4 [some (iq_r 0), some (iq_l x), none, some (iq_i i), d4, none] [] g1 l1 Q := by
  induction n with
  | zero =>
    intro i g1 l1 x d4 h h2 k0 hx
    refine B209_p4_0 _ _ _ _ _ ⟨by omega, fun _ => q _ _ _ k0 (fun t => ?_), fun h => by omega⟩
    rw [hx t]
    refine iq_beq ?_
    unfold sf_wf
    simp only [Bool.and_eq_true, decide_eq_true_eq]
    constructor
    · intro e; exact e.1
    · intro e; exact ⟨e, by omega⟩
  | succ n ih =>
    intro i g1 l1 x d4 h h2 k0 hx
    have hs1 := hs.keep k0
    have hp := hs.1
    have hp1 := hp.2.1
    have hp2 := hp.2.2.1
    have hp5 := hp.2.2.2.2.2.1
    have e24 := k0.p24
    have hi : (1 : Int) ≤ (i : Int) ∧ (i : Int) ≤ 24 := by omega
    have hP := sf_P3b hp hi
    have hm := iq_mR hP
    rw [sf_P33, sf_P3e (k := 1) (by omega)] at hm
    have hsn := iq_snR hP
    have eT : ∀ t : Int, (sf_wf (g 24) t && decide (t < ((i + 1 : Nat) : Int))) = ((sf_wf (g 24) t && decide (t < (i : Int))) || (decide (t = (i : Int)) && sf_wf (g 24) i)) := by
      intro t
      refine iq_beq ?_
      simp only [Bool.and_eq_true, Bool.or_eq_true, decide_eq_true_eq]
      constructor
      · intro e
        by_cases c : t = i
        · right; exact ⟨c, c ▸ e.1⟩
        · left; exact ⟨e.1, by omega⟩
      · rintro (e | e)
        · exact ⟨e.1, by omega⟩
        · exact ⟨by rw [e.1]; exact e.2, by omega⟩
    refine B209_p4_0 _ _ _ _ _ ⟨by omega, fun h => by omega, fun _ => sp135_23 (by omega) ⟨_, rfl, sp135_23 (by omega) ⟨_, rfl, sp8_23 hs1.1 (by rw [e24]; omega) (by rw [e24]; omega) (by omega) (fun y hy => ⟨_, rfl, sp88 ⟨_, rfl, ?_⟩⟩)⟩⟩⟩
    rw [e24] at hy
    have hyf : ∀ t, iq_tb y t = iq_f (sf_P3 (g 24) i) t := by
      intro t
      refine iq_beq ?_
      rw [hy t, sf_P3f, iq_dgi]
      constructor
      · rintro ⟨j, a, b, c⟩; exact ⟨j, a, by omega, c⟩
      · rintro ⟨j, a, b, c⟩; exact ⟨j, a, by omega, c⟩
    have hm60 : ∀ k : Nat, (sf_P3 (g 24) i 1).toNat ≤ k → iq_cn (iq_tb y) k = iq_m (sf_P3 (g 24) i) := by
      intro k hk
      rw [iq_cn_congr (h := iq_f (sf_P3 (g 24) i)) (fun t _ _ => hyf t)]
      refine iq_cn_ext hk (fun t a b => ?_)
      rcases hb : iq_f (sf_P3 (g 24) i) t with _ | _
      · rfl
      · have := iq_fR hP hb
        omega
    have e31 : sf_P3 (g 24) i 1 = g 24 1 := sf_P3e (by omega)
    rw [hm60 64 (by omega)]
    refine ⟨by omega, fun c => ?_, fun c => B80_23 _ _ ⟨_, rfl, sp136 (by rw [e24]; omega) (fun g2 a b cc dd => ⟨rfl, ?_⟩)⟩⟩
    · refine ih (i + 1) g1 l1 x _ (by omega) (by omega) k0 (fun t => ?_)
      rw [eT, sf_wfF1 (n := i) c, hx t]
      simp
    · rw [e24] at b cc dd
      rw [hm60 _ (by omega)] at cc
      have ht : ∀ d, 0 ≤ d → d < iq_m (sf_P3 (g 24) i) → g2 32 d = iq_t (sf_P3 (g 24) i) d := fun d h1 h2 => iq_Tt hP (fun t ht1 ht2 => by
        have := dd t (by omega) (by rw [hyf]; exact ht2)
        rw [iq_cn_congr (h := iq_f (sf_P3 (g 24) i)) (fun t _ _ => hyf t)] at this
        exact this) h1 h2
      have hrg : iq_RG g2 := by
        refine ⟨?_, by omega, by omega⟩
        rw [b, cc, ← e31]
        exact iq_rg_congr ht (iq_trg hP)
      have kk := k0.trans (iq_KKr (l := l1) (x := y) a)
      refine sp141 hrg (fun z hz => ⟨_, rfl, sp88 ⟨_, rfl, ?_⟩⟩)
      have hzz := iq_szb hP (by rw [b, e31]) cc ht hz
      rw [iq_cn_congr (h := iq_sy (sf_P3 (g 24) i)) (fun t _ _ => hzz t), iq_sn64 hP]
      refine ⟨by omega, fun f => ?_, fun f => sp6 (by omega) ⟨_, rfl, ?_⟩⟩
      · refine ih (i + 1) g2 _ (x ||| 0) _ (by omega) (by omega) kk (fun t => ?_)
        rw [eT, sf_wfF2 (n := i) (by omega), iq_tb_or, iq_tb_0, hx t]
        simp
      · refine ih (i + 1) g2 _ (x ||| iq_of i) _ (by omega) (by omega) kk (fun t => ?_)
        rw [eT, sf_wfT (by omega) c f, iq_tb_or, iq_tbof, hx t, decide_eq_true (show (0 : Int) ≤ (i : Int) by omega), decide_eq_true (show (i : Int) < 64 by omega)]
        simp
theorem sp209 {N : Nat} {xs : Nat → Int32} {Q : iq_T} {g : iq_I} {l : iq_J} (hs : iq_SR g l 23 24 25 0) (q : ∀ (g' : iq_I) (l' : iq_J) (x : Int64), iq_KK g l g' l' → (∀ t, iq_tb x t = sf_wf (g 24) t) → Q (some (iq_l x)) g' l') : iq_P N xs 209 0 [some (iq_r 0), none, none, none, none, none] [] g l Q := by
  refine B209_0 _ _ (sp209_p hs q 23 2 g l 0 none (by omega) (by omega) (.refl g l) (fun t => ?_))
  rw [iq_tb_0]
  refine iq_beq ?_
  unfold sf_wf
  simp only [Bool.and_eq_true, decide_eq_true_eq]
  constructor
  · intro e; cases e
  · intro e; omega
theorem cLengths {N : Nat} {xs : Nat → Int32} {Q : iq_T} {g : iq_I} {l : iq_J} (hs : iq_SR g l 23 24 25 0) (q : ∀ (g' : iq_I) (l' : iq_J), iq_KK g l g' l' → g' 0 0 = 0 → Q (some (iq_i (aLengths (g 24)))) g' l') : iq_P N xs 210 0 [some (iq_r 0)] [] g l Q := by
  refine B210_0 _ _ (sp209 hs (fun g' l' x k0 hx => ⟨_, rfl, sp88 ⟨_, rfl, sp90 ⟨_, rfl, ?_⟩⟩⟩))
  rw [iq_cn_congr (h := sf_wf (g 24)) (fun t _ _ => hx t), sf_wfc (by omega)]
  exact q _ _ (k0.uz iq_sx00) (by simp [iq_uz])
theorem cLengthAt {N : Nat} {xs : Nat → Int32} {Q : iq_T} {g : iq_I} {l : iq_J} {k : Int} (hs : iq_SR g l 23 24 25 0) (hk : -2147483648 ≤ k ∧ k ≤ 2147483647) (q : ∀ (g' : iq_I) (l' : iq_J), iq_KK g l g' l' → g' 0 0 = (aLengthAt (g 24) k).2 → Q (some (iq_i (aLengthAt (g 24) k).1)) g' l') : iq_P N xs 213 0 [some (iq_r 0), some (iq_i k)] [] g l Q := by
  unfold aLengthAt at q
  refine B213_0 _ _ _ (sp209 hs (fun g' l' x k0 hx => ⟨_, rfl, sp166 hk ⟨_, rfl, ?_⟩⟩))
  have e : iq_pk x k = if k < 0 then -1 else iq_nth (sf_wf (g 24)) 64 0 k := by
    unfold iq_pk
    rw [show iq_tb x = sf_wf (g 24) from funext hx]
  rw [e]
  by_cases c : 0 ≤ k ∧ k < aLengths (g 24)
  · rw [if_pos c] at q
    rw [if_neg (by omega)]
    have hh := sf_len1 c.1 c.2
    exact sp167 (by omega) (fun h => by omega) (fun _ => ⟨_, rfl, q _ _ (k0.uz iq_sx00) (by simp [iq_uz])⟩)
  · rw [if_neg c] at q
    rw [sf_len0 c]
    exact sp167 (by omega) (fun _ => ⟨_, rfl, q _ _ (k0.uz iq_sx00) (by simp [iq_uz])⟩) (fun h => by omega)
