/-! Fractions; ratio, share. -/
theorem sf_rem {x y : Int64} (hx : 0 ≤ x.toInt) (hy : 0 < y.toInt) : (x - x / y * y).toInt = x.toInt % y.toInt := by
  have hxl := x.toInt_lt
  have hyl := y.toInt_lt
  have e1 : (x / y).toInt = x.toInt / y.toInt := by
    rw [Int64.toInt_div, Int.tdiv_eq_ediv_of_nonneg hx]
    have h1 : 0 ≤ x.toInt / y.toInt := Int.ediv_nonneg hx (by omega)
    have h2 := Int.ediv_le_self y.toInt hx
    exact Int.bmod_eq_of_le (by omega) (by omega)
  have e2 := Int.emod_add_mul_ediv x.toInt y.toInt
  have m1 := Int.emod_nonneg x.toInt (show y.toInt ≠ 0 by omega)
  have h1 : 0 ≤ x.toInt / y.toInt := Int.ediv_nonneg hx (by omega)
  have h3 : 0 ≤ y.toInt * (x.toInt / y.toInt) := Int.mul_nonneg (by omega) h1
  have e3 : (x / y * y).toInt = y.toInt * (x.toInt / y.toInt) := by
    rw [Int64.toInt_mul, e1, Int.mul_comm]
    exact Int.bmod_eq_of_le (by omega) (by omega)
  rw [Int64.toInt_sub, e3]
  rw [show x.toInt - y.toInt * (x.toInt / y.toInt) = x.toInt % y.toInt by omega]
  have m2 := Int.emod_lt_of_pos x.toInt hy
  exact Int.bmod_eq_of_le (by omega) (by omega)
def sf_gI : Nat → Int64 → Int64 → Int64
  | 0, x, _ => x
  | n + 1, x, y => if y = 0 then x else sf_gI n y (x - x / y * y)
def sf_dn : Nat → Int64 → Int64 → Prop
  | 0, _, y => y = 0
  | n + 1, x, y => y = 0 ∨ sf_dn n y (x - x / y * y)
theorem sf_gIp (n : Nat) : ∀ x y : Int64, 0 ≤ x.toInt → 0 ≤ y.toInt → (0 < x.toInt ∨ 0 < y.toInt) → sf_dn n x y → 0 < (sf_gI n x y).toInt := by
  induction n with
  | zero =>
    intro x y h1 h2 h3 hd
    have hd : y = 0 := hd
    rw [hd, iq_of640] at h3
    rw [sf_gI]; omega
  | succ n ih =>
    intro x y h1 h2 h3 hd
    rw [sf_gI]
    by_cases c : y = 0
    · rw [if_pos c]
      rw [c, iq_of640] at h3
      omega
    · rw [if_neg c]
      have hy : 0 < y.toInt := by
        have : ¬ y.toInt = 0 := fun e => c (Int64.toInt_inj.mp (by rw [e, iq_of640]))
        omega
      have hd : y = 0 ∨ sf_dn n y (x - x / y * y) := hd
      refine ih _ _ h2 ?_ (.inl hy) (hd.resolve_left c)
      rw [sf_rem h1 hy]
      exact Int.emod_nonneg _ (by omega)
theorem sf_dnM (n : Nat) : ∀ (m : Nat) (x y : Int64), n ≤ m → sf_dn n x y → sf_dn m x y := by
  induction n with
  | zero =>
    intro m x y _ h
    cases m with
    | zero => exact h
    | succ m => exact .inl h
  | succ n ih =>
    intro m x y hm h
    obtain ⟨m, rfl⟩ : ∃ k, m = k + 1 := ⟨m - 1, by omega⟩
    rcases h with h | h
    · exact .inl h
    · exact .inr (ih m _ _ (by omega) h)
theorem sf_dnk (k : Nat) : ∀ x y : Int64, 0 ≤ x.toInt → 0 ≤ y.toInt → y.toInt < 2 ^ k → sf_dn (2 * k) x y := by
  induction k with
  | zero =>
    intro x y h1 h2 h3
    have : y.toInt = 0 := by simp at h3; omega
    exact Int64.toInt_inj.mp (by rw [this, iq_of640])
  | succ k ih =>
    intro x y h1 h2 h3
    have e0 : (2 : Int) ^ (k + 1) = 2 * 2 ^ k := by rw [Int.pow_succ]; omega
    rw [e0] at h3
    rw [show 2 * (k + 1) = (2 * k) + 1 + 1 by omega]
    by_cases c : y = 0
    · exact .inl c
    · have hy : 0 < y.toInt := by
        have : ¬ y.toInt = 0 := fun e => c (Int64.toInt_inj.mp (by rw [e, iq_of640]))
        omega
      refine .inr ?_
      have hr := sf_rem h1 hy
      generalize hrr : x - x / y * y = r at hr ⊢
      have r1 := Int.emod_nonneg x.toInt (show y.toInt ≠ 0 by omega)
      have r2 := Int.emod_lt_of_pos x.toInt hy
      by_cases d : r = 0
      · exact .inl d
      · have hr0 : 0 < r.toInt := by
          have : ¬ r.toInt = 0 := fun e => d (Int64.toInt_inj.mp (by rw [e, iq_of640]))
          omega
        refine .inr (ih _ _ (by omega) ?_ ?_)
        · rw [sf_rem h2 hr0]
          exact Int.emod_nonneg _ (by omega)
        · rw [sf_rem h2 hr0]
          have q1 := Int.emod_lt_of_pos y.toInt hr0
          have q2 := Int.emod_nonneg y.toInt (show r.toInt ≠ 0 by omega)
          by_cases f : 2 * r.toInt ≤ y.toInt
          · omega
          · have : y.toInt % r.toInt = y.toInt - r.toInt := by
              have h4 := Int.add_mul_emod_self_left (y.toInt - r.toInt) r.toInt 1
              rw [show y.toInt - r.toInt + r.toInt * 1 = y.toInt by omega] at h4
              rw [h4]
              exact Int.emod_eq_of_lt (by omega) (by omega)
            omega
theorem sp300_p {N : Nat} {xs : Nat → Int32} {Q : iq_T} {g : iq_I} {l : iq_J} {a b : Int64} (n : Nat) : ∀ (x y : Int64) (i : Int) (d9 : Option iq_V), 0 ≤ i → i + n = 128 → sf_dn n x y → Q (some (iq_l (sf_gI n x y))) g l → iq_P N xs 300 9 [some (iq_l a), none, some (iq_l b), none, some (iq_l x), none, some (iq_l y), none, some (iq_i i), d9, none] [] g l Q := by
  induction n with
  | zero =>
    intro x y i d9 h1 h2 hd q
    exact B300_p9 _ _ _ _ _ _ _ _ ⟨by omega, fun h => q, fun h => by omega⟩
  | succ n ih =>
    intro x y i d9 h1 h2 hd q
    rw [sf_gI] at q
    refine B300_p9 _ _ _ _ _ _ _ _ ⟨by omega, fun h => by omega, fun h => ⟨iq_lcR _ _, fun c => ?_, fun c => ?_⟩⟩
    · rw [iq_lc0] at c
      rw [if_pos c] at q
      exact q
    · rw [iq_lc0] at c
      rw [if_neg c] at q
      exact ⟨c, ih _ _ _ _ (by omega) (by omega) (hd.resolve_left c) q⟩
/-- bounds of a fraction -/
def sf_fb (a b : Int64) : Prop := 0 ≤ a.toInt ∧ 0 < b.toInt ∧ b.toInt < 2 ^ 60
theorem sf_fbd {a b : Int64} (h : sf_fb a b) : sf_dn 128 a b := sf_dnM 120 128 a b (by omega) (sf_dnk 60 a b h.1 (by have := h.2.1; omega) h.2.2)
theorem sp301 {N : Nat} {xs : Nat → Int32} {Q : iq_T} {g : iq_I} {l : iq_J} {a b : Int64} (h : sf_fb a b) (q : Q (some (iq_i 1)) (iq_uz g 0 0 0) (iq_uz (iq_uz l 0 1 (a / sf_gI 128 a b)) 0 2 (b / sf_gI 128 a b))) : iq_P N xs 301 0 [some (iq_r 0), some (iq_l a), none, some (iq_l b), none, none, none] [] g l Q := by
  have hd := sf_fbd h
  have hp := sf_gIp 128 a b h.1 (by have := h.2.1; omega) (.inr h.2.1) hd
  refine B301_0 _ _ _ _ (B300 _ _ _ _ (sp300_p 128 a b 0 none (by omega) (by omega) hd ⟨_, rfl, iq_lcR _ _, fun c => ?_, fun c => ?_⟩))
  · have hne : ¬ sf_gI 128 a b = 0 := fun e => by rw [e, iq_of640] at hp; omega
    exact ⟨hne, hne, sp30 ⟨_, rfl, .inr rfl, q⟩⟩
  · rw [iq_lclt, iq_of641] at c; omega
theorem sp303_p {N : Nat} {xs : Nat → Int32} {Q : iq_T} {g : iq_I} {l : iq_J} {a b : Int64} (n : Nat) : ∀ (x y : Int64) (d9 : Option iq_V), sf_dn n x y → ¬ sf_gI n x y = 0 → Q (some (iq_i 1)) (iq_uz g 77 1 0) (iq_uz (iq_uz l 77 2 (a / sf_gI n x y)) 77 3 (b / sf_gI n x y)) → iq_P N xs 303 6 [some (iq_r 77), some (iq_l a), none, some (iq_l b), none, some (iq_l x), none, some (iq_l y), none, d9, none] [] g l Q := by
  induction n with
  | zero =>
    intro x y d9 hd hn q
    have hd : y = 0 := hd
    exact B303_p6_77 _ _ _ _ _ _ _ ⟨iq_lcR _ _, fun c => ⟨hn, hn, sp33 (by omega) (fun _ => ⟨_, rfl, .inr rfl, q⟩) (fun h => by omega)⟩, fun c => (c (iq_lc0.mpr hd)).elim⟩
  | succ n ih =>
    intro x y d9 hd hn q
    rw [sf_gI] at hn q
    refine B303_p6_77 _ _ _ _ _ _ _ ⟨iq_lcR _ _, fun c => ?_, fun c => ?_⟩
    · rw [iq_lc0] at c
      rw [if_pos c] at hn q
      exact ⟨hn, hn, sp33 (by omega) (fun _ => ⟨_, rfl, .inr rfl, q⟩) (fun h => by omega)⟩
    · rw [iq_lc0] at c
      rw [if_neg c] at hn q
      exact ⟨c, ih _ _ _ (hd.resolve_left c) hn q⟩
theorem sp303 {N : Nat} {xs : Nat → Int32} {Q : iq_T} {g : iq_I} {l : iq_J} {a b : Int64} (h : sf_fb a b) (q : Q (some (iq_i 1)) (iq_uz g 77 1 0) (iq_uz (iq_uz l 77 2 (a / sf_gI 128 a b)) 77 3 (b / sf_gI 128 a b))) : iq_P N xs 303 0 [some (iq_r 77), some (iq_l a), none, some (iq_l b), none, none, none, none, none, none, none] [] g l Q := by
  have hd := sf_fbd h
  have hp := sf_gIp 128 a b h.1 (by have := h.2.1; omega) (.inr h.2.1) hd
  exact B303_77 _ _ _ _ (sp303_p 128 a b none hd (fun e => by rw [e, iq_of640] at hp; omega) q)
/-- nothing that is kept has changed; the fractions are told -/
def iq_KF (g : iq_I) (l : iq_J) (g' : iq_I) (l' : iq_J) : Prop := iq_co 0 g' = iq_co 0 g ∧ iq_co 0 l' = iq_co 0 l
theorem iq_KK.kf {g g' : iq_I} {l l' : iq_J} (h : iq_KK g l g' l') : iq_KF g l g' l' := ⟨h.1, h.2.1⟩
/-- behind a fraction told by the class -/
theorem iq_KK.tellc {g g' : iq_I} {l l' : iq_J} (h : iq_KK g l g' l') (v : Int) (x y : Int64) : iq_KF g l (iq_uz g' 0 0 v) (iq_uz (iq_uz l' 0 1 x) 0 2 y) :=
  ⟨(iq_co_uz iq_sx00).trans h.1, (iq_co_uz (by simp [iq_sx])).trans ((iq_co_uz (by simp [iq_sx])).trans h.2.1)⟩
theorem iq_KK.tellm {g g' : iq_I} {l l' : iq_J} (h : iq_KK g l g' l') (v : Int) (x y : Int64) : iq_KF g l (iq_uz g' 77 1 v) (iq_uz (iq_uz l' 77 2 x) 77 3 y) :=
  ⟨(iq_co_uz iq_sx771).trans h.1, (iq_co_uz (by simp [iq_sx])).trans ((iq_co_uz (by simp [iq_sx])).trans h.2.1)⟩
/-- a fraction's answer: (true or false, status, top, bottom) -/
def sf_tl (a b : Int64) : Int64 × Int64 := (a / sf_gI 128 a b, b / sf_gI 128 a b)
def aRatio (P : Int → Int) : Int64 × Int64 := sf_tl (iq_i2l (iq_sk P (iq_sn P - 1))) (iq_i2l (iq_sk P 0))
theorem sf_sn1 {P : Int → Int} (hp : iq_pb P) : 1 ≤ iq_sn P := by
  have hm := iq_mR hp
  have hp1 := hp.2.1
  have s := iq_sp1 (iq_trg hp) (show (0 : Int) ≤ 0 by omega) (show (0 : Int) < iq_m P by omega)
  have hf : iq_sy P ((((iq_sp (iq_t P) (iq_m P) (P 1) 0 1)).toNat : Nat) : Int) = true := by
    rw [Int.toNat_of_nonneg (by omega)]
    exact iq_dgi.mpr ⟨0, by omega, by omega, rfl⟩
  have := iq_cn_pos (n := (P 1).toNat + 1) (by omega) hf
  unfold iq_sn
  omega
theorem sf_skfb {P : Int → Int} (hp : iq_pb P) : sf_fb (iq_i2l (iq_sk P (iq_sn P - 1))) (iq_i2l (iq_sk P 0)) := by
  have h1 := sf_sn1 hp
  have hp1 := hp.2.1
  obtain ⟨v, w1, w2, w3, w4, w5⟩ := (iq_skv hp (k := iq_sn P - 1)).1 (by omega) (by omega)
  obtain ⟨u, x1, x2, x3, x4, x5⟩ := (iq_skv hp (k := 0)).1 (by omega) (by omega)
  unfold sf_fb
  rw [iq_i2lv (by omega) (by omega), iq_i2lv (by omega) (by omega)]
  refine ⟨by omega, by omega, ?_⟩
  have : (2 : Int) ^ 60 = 1152921504606846976 := by decide
  omega
theorem cRatio {N : Nat} {xs : Nat → Int32} {Q : iq_T} {g : iq_I} {l : iq_J} (hs : iq_SR g l 23 24 25 0) (q : ∀ (g' : iq_I) (l' : iq_J), iq_KF g l g' l' → g' 0 0 = 0 → l' 0 1 = (aRatio (g 24)).1 → l' 0 2 = (aRatio (g 24)).2 → l' 77 2 = l 77 2 → l' 77 3 = l 77 3 → Q (some (iq_i 1)) g' l') : iq_P N xs 305 0 [some (iq_r 0), none, none, none] [] g l Q := by
  have hp1 := hs.1.2.1
  have hsn := iq_snR hs.1
  have hs1 := sf_sn1 hs.1
  refine B305_0 _ _ (sp137 hs (fun g' e1 e2 e3 e4 e5 => B305_q4_31 _ _ (sp141 e5 (fun y hy => ⟨_, rfl, sp88 ⟨_, rfl, ?_⟩⟩))))
  have hz := iq_szb hs.1 e2 e3 e4 hy
  rw [iq_cn_congr (h := iq_sy (g 24)) (fun i _ _ => hz i), iq_sn64 hs.1]
  refine sp166 (by omega) ⟨_, rfl, sp166 (by omega) ⟨_, rfl, ?_⟩⟩
  rw [iq_pk_sk hz, iq_pk_sk hz]
  refine sp301 (sf_skfb hs.1) ⟨_, rfl, .inr rfl, q _ _ ((iq_KKr e1).tellc 0 _ _) (by simp [iq_uz]) (by simp [iq_uz]; rfl) (by simp [iq_uz]; rfl) (by simp [iq_uz]) (by simp [iq_uz])⟩
theorem mRatio {N : Nat} {xs : Nat → Int32} {Q : iq_T} {g : iq_I} {l : iq_J} (hs : iq_SR g l 23 24 25 0) (q : ∀ (g' : iq_I) (l' : iq_J), iq_KF g l g' l' → g' 0 0 = g 0 0 → g' 77 1 = 0 → l' 77 2 = (aRatio (g 24)).1 → l' 77 3 = (aRatio (g 24)).2 → l' 0 1 = l 0 1 → l' 0 2 = l 0 2 → Q (some (iq_i 1)) g' l') : iq_P N xs 306 0 [some (iq_r 77)] [] g l Q := by
  have hp1 := hs.1.2.1
  have hsn := iq_snR hs.1
  have hs1 := sf_sn1 hs.1
  refine B306_77 _ _ (sp114c hs (fun g' f1 f2 f3 => ⟨rfl, ?_⟩))
  have h0 : g' 0 0 = g 0 0 := congrFun (f1 0 (by decide) (.inl (by decide))) 0
  have e27 : g' 77 27 = iq_sn (g 24) := f3.2.2.2.2.1
  have key : ∀ k, 0 ≤ k → k < iq_sn (g 24) → g' 88 k = iq_sk (g 24) k := by
    intro k a b
    obtain ⟨v, w1, w2, w3, w4, w5⟩ := (iq_skv hs.1 (k := k)).1 a b
    have e := f3.2.2.2.2.2 v w1 w3
    have w4' : iq_cn (iq_dg (fun d => iq_sp (iq_t (g 24)) (iq_m (g 24)) (g 24 1) d 1) (iq_m (g 24)).toNat) v = k := w4
    rw [w4'] at e
    rw [e, w5]
  rw [e27, key _ (by omega) (by omega), key 0 (by omega) (by omega)]
  exact ⟨by omega, sp303 (sf_skfb hs.1) ⟨_, rfl, .inr rfl, q _ _ ((iq_KKl f1 f2).tellm 0 _ _) (by simp [iq_uz, h0]) (by simp [iq_uz]) (by simp [iq_uz]; rfl) (by simp [iq_uz]; rfl) (by simp [iq_uz]) (by simp [iq_uz])⟩⟩
def sf_sc (P : Int → Int) (k : Int) : Int := iq_cn (fun d => decide (iq_sp (iq_t P) (iq_m P) (P 1) d 1 = iq_sk P k)) (iq_m P).toNat
theorem sf_scfb {P : Int → Int} (hp : iq_pb P) (k : Int) : sf_fb (iq_i2l (sf_sc P k)) (iq_i2l (iq_m P)) := by
  have hm := iq_mR hp
  have hp1 := hp.2.1
  have hc := iq_cn_nonneg (fun d => decide (iq_sp (iq_t P) (iq_m P) (P 1) d 1 = iq_sk P k)) (iq_m P).toNat
  have hc' : 0 ≤ sf_sc P k ∧ sf_sc P k ≤ 60 := by unfold sf_sc; omega
  unfold sf_fb
  rw [iq_i2lv (by omega) (by omega), iq_i2lv (by omega) (by omega)]
  refine ⟨by omega, by omega, ?_⟩
  have : (2 : Int) ^ 60 = 1152921504606846976 := by decide
  omega
def aShare (P : Int → Int) (k : Int) : Int64 × Int64 := sf_tl (iq_i2l (sf_sc P k)) (iq_i2l (iq_m P))
theorem cShare {N : Nat} {xs : Nat → Int32} {Q : iq_T} {g : iq_I} {l : iq_J} {k : Int} (hs : iq_SR g l 23 24 25 0) (hd : -2147483648 ≤ k ∧ k ≤ 2147483647) (q1 : 0 ≤ k → k < iq_sn (g 24) → ∀ (g' : iq_I) (l' : iq_J), iq_KF g l g' l' → g' 0 0 = 0 → l' 0 1 = (aShare (g 24) k).1 → l' 0 2 = (aShare (g 24) k).2 → l' 77 2 = l 77 2 → l' 77 3 = l 77 3 → Q (some (iq_i 1)) g' l') (q0 : ¬ (0 ≤ k ∧ k < iq_sn (g 24)) → ∀ (g' : iq_I) (l' : iq_J), iq_KK g l g' l' → g' 0 0 = 6 → Q (some (iq_i 0)) g' l') : iq_P N xs 307 0 [some (iq_r 0), some (iq_i k), none] [] g l Q := by
  have hp1 := hs.1.2.1
  have hm := iq_mR hs.1
  refine B307_0 _ _ _ (sp137 hs (fun g' e1 e2 e3 e4 e5 => B307_q4_31 _ _ _ (sp141 e5 (fun y hy => ⟨_, rfl, sp166 hd ⟨_, rfl, ?_⟩⟩))))
  rw [iq_pk_sk (iq_szb hs.1 e2 e3 e4 hy)]
  obtain ⟨v1, v2⟩ := iq_skv hs.1 (k := k)
  by_cases c : 0 ≤ k ∧ k < iq_sn (g 24)
  · obtain ⟨v, w1, w2, w3, w4, w5⟩ := v1 c.1 c.2
    have q1 := q1 c.1 c.2
    refine ⟨by omega, fun _ => sp171 (by omega) e5 ⟨_, rfl, ?_⟩, fun h => by omega⟩
    rw [e2, e3]
    have e : iq_cn (fun d => decide (iq_sp (g' 32) (iq_m (g 24)) (g 24 1) d 1 = iq_sk (g 24) k)) (iq_m (g 24)).toNat = sf_sc (g 24) k := by
      refine iq_cn_congr (fun i a b => ?_)
      try dsimp only
      rw [iq_sp_congr (by omega) e4 a (by omega)]
    rw [e]
    exact sp301 (sf_scfb hs.1 k) ⟨_, rfl, .inr rfl, q1 _ _ ((iq_KKr e1).tellc 0 _ _) (by simp [iq_uz]) (by simp [iq_uz]; rfl) (by simp [iq_uz]; rfl) (by simp [iq_uz]) (by simp [iq_uz])⟩
  · have w := v2 c
    exact ⟨by omega, fun h => by omega, fun _ => sp28 ⟨_, rfl, .inl rfl, q0 c _ _ ((iq_KKr e1).uz iq_sx00) (by simp [iq_uz])⟩⟩
theorem mShare {N : Nat} {xs : Nat → Int32} {Q : iq_T} {g : iq_I} {l : iq_J} {k : Int} (hs : iq_SR g l 23 24 25 0) (hd : -2147483648 ≤ k ∧ k ≤ 2147483647) (q1 : 0 ≤ k → k < iq_sn (g 24) → ∀ (g' : iq_I) (l' : iq_J), iq_KF g l g' l' → g' 0 0 = g 0 0 → g' 77 1 = 0 → l' 77 2 = (aShare (g 24) k).1 → l' 77 3 = (aShare (g 24) k).2 → l' 0 1 = l 0 1 → l' 0 2 = l 0 2 → Q (some (iq_i 1)) g' l') (q0 : ¬ (0 ≤ k ∧ k < iq_sn (g 24)) → ∀ (g' : iq_I) (l' : iq_J), iq_KK g l g' l' → g' 0 0 = g 0 0 → g' 77 1 = 6 → Q (some (iq_i 0)) g' l') : iq_P N xs 308 0 [some (iq_r 77), some (iq_i k)] [] g l Q := by
  have hsn := iq_snR hs.1
  have hm := iq_mR hs.1
  have hp1 := hs.1.2.1
  have hp3 := hs.1.2.2.2.1
  refine B308_77 _ _ _ (sp169 hs hd (fun g' k0 k1 k2 a b => ⟨_, rfl, by omega, fun h => by omega, fun _ => ?_⟩) (fun g' k0 k1 a => ⟨_, rfl, by omega, fun _ => sp33 (by omega) (fun h => by omega) (fun _ => ⟨_, rfl, .inl rfl, q0 a _ _ (k0.uz iq_sx771) (by simp [iq_uz, k1]) (by simp [iq_uz])⟩), fun h => by omega⟩))
  have q1 := q1 a b
  obtain ⟨v, w1, w2, w3, w4, w5⟩ := (iq_skv hs.1 (k := k)).1 a b
  have e := k2.2.2.2.2.2 v w1 w3
  have w4' : iq_cn (iq_dg (fun d => iq_sp (iq_t (g 24)) (iq_m (g 24)) (g 24 1) d 1) (iq_m (g 24)).toNat) v = k := w4
  rw [w4'] at e
  refine B173_77 _ _ _ (sp173_p (m := iq_m (g 24)) (c := fun d => iq_sp (iq_t (g 24)) (iq_m (g 24)) (g 24 1) d 1) k2.1 (by omega) (by omega) k2.2.2.2.1 (fun d x y => by have := iq_sp1 (iq_trg hs.1) x y; omega) (by omega) ⟨_, rfl, ?_⟩ (iq_m (g 24)).toNat 0 (by omega))
  rw [e, ← w5, k2.1]
  exact sp303 (sf_scfb hs.1 k) ⟨_, rfl, .inr rfl, q1 _ _ (k0.tellm 0 _ _) (by simp [iq_uz, k1]) (by simp [iq_uz]) (by simp [iq_uz]; rfl) (by simp [iq_uz]; rfl) (by simp [iq_uz]) (by simp [iq_uz])⟩
