/-! Rule in the model; flip. -/
theorem sp106 {N : Nat} {xs : Nat → Int32} {Q : iq_T} {g : iq_I} {l : iq_J} {a : Int} (h : 0 ≤ a ∧ a < 9) (q : Q (some (iq_i (sf_lo a))) g l) : iq_P N xs 106 0 [some (iq_i a)] [] g l Q := by
  unfold sf_lo at q
  refine B106 _ _ _ ⟨by omega, fun c1 => ⟨by omega, fun c => ?_, fun c2 => ⟨by omega, fun c => ?_, fun c => ?_⟩⟩, fun c => ?_⟩
  · rw [if_neg c1, if_pos (.inl c)] at q; exact q
  · rw [if_neg c1, if_neg (by omega)] at q; exact q
  · rw [if_neg c1, if_pos (.inr c)] at q; exact q
  · rw [if_pos c] at q; exact q
theorem sp107 {N : Nat} {xs : Nat → Int32} {Q : iq_T} {g : iq_I} {l : iq_J} {a p : Int} (h : 0 ≤ a ∧ a < 9) (q : Q (some (iq_i (sf_hi a p))) g l) : iq_P N xs 107 0 [some (iq_i a), some (iq_i p)] [] g l Q := by
  have h' : a = 0 ∨ a = 1 ∨ a = 2 ∨ a = 3 ∨ a = 4 ∨ a = 5 ∨ a = 6 ∨ a = 7 ∨ a = 8 := by omega
  refine B107 _ _ _ _ ⟨by omega, ⟨fun e => ?_, fun e => ?_, fun e => ?_, fun e => ?_, fun e => ?_, fun e => ?_, fun e => ?_, trivial⟩, fun e => ?_⟩
  · subst e; exact q
  · subst e; exact q
  · subst e; exact q
  · subst e; exact q
  · subst e; exact q
  · subst e; exact q
  · subst e; exact q
  · have : a = 7 ∨ a = 8 := by omega
    rcases this with e | e <;> subst e <;> exact q
theorem sp110_p {N : Nat} {xs : Nat → Int32} {Q : iq_T} {g : iq_I} {l : iq_J} {off : Int} {P : Int → Int} (ho : 0 ≤ off ∧ off ≤ 2383) (hr : sf_rv P) (hg : ∀ k, 0 ≤ k → k < 9 → g 78 (off + k) = P k) (q : ∀ g' : iq_I, (∀ j, ¬ j = 78 → g' j = g j) → (∀ k, ¬ (off ≤ k ∧ k < off + 9) → g' 78 k = g 78 k) → (∀ k, 0 ≤ k → k < 9 → g' 78 (off + k) = sf_fold P k) → Q none g' l) (n : Nat) : ∀ (v : Nat) (g1 : iq_I), v + n = 9 → 2 ≤ v → (∀ j, ¬ j = 78 → g1 j = g j) → (∀ k, ¬ (off ≤ k ∧ k < off + 9) → g1 78 k = g 78 k) → (∀ k : Int, 0 ≤ k → k < v → g1 78 (off + k) = sf_fold P k) → (∀ k : Int, v ≤ k → k < 9 → g1 78 (off + k) = P k) → iq_P N xs 110 2 [some (iq_r 77), some (iq_i off), some (iq_i v)] [] g1 l Q := by
  have p1 := hr.2.1
  induction n with
  | zero =>
    intro v g1 h h2 a b c d
    exact B110_p2_77 _ _ _ _ ⟨by omega, fun _ => q g1 a b (fun k x y => c k x (by omega)), fun h => by omega⟩
  | succ n ih =>
    intro v g1 h h2 a b c d
    have e1 : g1 78 (off + 1) = P 1 := c 1 (by omega) (by omega)
    have ev := d v (by omega) (by omega)
    have vR := sf_rvR hr (show (0 : Int) ≤ v by omega) (by omega)
    refine B110_p2_77 _ _ _ _ ⟨by omega, fun h => by omega, fun _ => sp109 (by omega) (fun f => ⟨_, rfl, by omega, fun h => by omega, fun _ => ⟨by omega, by omega, by omega, by omega, ?_⟩⟩) (fun f => ⟨_, rfl, by omega, fun _ => ih (v + 1) g1 (by omega) (by omega) a b (fun k x y => ?_) (fun k x y => d k (by omega) y), fun h => by omega⟩)⟩
    · rw [ev, e1, Int.tmod_eq_emod_of_nonneg (by omega)]
      refine ih (v + 1) _ (by omega) (by omega) (fun j hj => ?_) (fun k hk => ?_) (fun k x y => ?_) (fun k x y => ?_)
      · rw [← a j hj]; funext i; simp [iq_uz, hj]
      · rw [iq_uz78 (by omega)]; exact b k hk
      · by_cases e : k = v
        · rw [e]
          unfold sf_fold
          rw [if_pos f]
          simp [iq_uz]
        · rw [iq_uz78 (by omega)]; exact c k x (by omega)
      · rw [iq_uz78 (by omega)]; exact d k (by omega) y
    · by_cases e : k = v
      · rw [e, ev]
        unfold sf_fold
        rw [if_neg (by rw [f]; decide)]
      · exact c k x (by omega)
theorem sp110 {N : Nat} {xs : Nat → Int32} {Q : iq_T} {g : iq_I} {l : iq_J} {off : Int} {P : Int → Int} (ho : 0 ≤ off ∧ off ≤ 2383) (hr : sf_rv P) (hg : ∀ k, 0 ≤ k → k < 9 → g 78 (off + k) = P k) (q : ∀ g' : iq_I, (∀ j, ¬ j = 78 → g' j = g j) → (∀ k, ¬ (off ≤ k ∧ k < off + 9) → g' 78 k = g 78 k) → (∀ k, 0 ≤ k → k < 9 → g' 78 (off + k) = sf_fold P k) → Q none g' l) : iq_P N xs 110 0 [some (iq_r 77), some (iq_i off), none] [] g l Q := by
  refine B110_77 _ _ _ (sp110_p (g := g) ho hr hg q 7 2 g (by omega) (by omega) (fun _ _ => rfl) (fun _ _ => rfl) (fun k x y => ?_) (fun k x y => hg k (by omega) y))
  rw [hg k x (by omega)]
  unfold sf_fold
  rw [if_neg]
  intro f
  have := sf_fli.mp f
  omega
theorem sp177_c {N : Nat} {xs : Nat → Int32} {Q : iq_T} {g : iq_I} {l : iq_J} {a v p : Int} (hp : 2 ≤ p ∧ p ≤ 60) (q : ∀ g' : iq_I, iq_78 g g' → (∀ k, ¬ (20 + p ≤ k ∧ k < 80) → g' 78 k = g 78 k) → (∀ t, p ≤ t → t < 60 → g' 78 (20 + t) = 0) → iq_P N xs 114 0 [some (iq_r 77)] [] g' l (fun r g1 l2 => r = none ∧ (iq_P N xs 115 0 [some (iq_r 77), some (iq_i (g1 77 26))] [] g1 l2 (fun r g3 l4 => ∃ z5, r = some (iq_i z5) ∧ (Q (some (iq_i z5)) g3 l4))))) (m : Nat) : ∀ (k : Nat) (g1 : iq_I), k + m = 60 → p ≤ k → iq_78 g g1 → (∀ i, ¬ (20 + p ≤ i ∧ i < 80) → g1 78 i = g 78 i) → (∀ t : Int, p ≤ t → t < k → g1 78 (20 + t) = 0) → iq_P N xs 177 76 [some (iq_r 77), some (iq_i a), some (iq_i v), some (iq_i k)] [] g1 l Q := by
  induction m with
  | zero =>
    intro k g1 h h2 x y z
    exact B177_p76_77 _ _ _ _ _ ⟨by omega, fun _ => q g1 x y (fun t u w => z t u (by omega)), fun h => by omega⟩
  | succ m ih =>
    intro k g1 h h2 x y z
    refine B177_p76_77 _ _ _ _ _ ⟨by omega, fun h => by omega, fun _ => ⟨by omega, ih (k + 1) _ (by omega) (by omega) (x.uz (by omega)) (fun i u => ?_) (fun t u w => ?_)⟩⟩
    · rw [iq_uz78 (by omega)]; exact y i u
    · by_cases e : t = k
      · rw [e]; simp [iq_uz]
      · rw [iq_uz78 (by omega)]; exact z t u (by omega)
theorem mRule {N : Nat} {xs : Nat → Int32} {Q : iq_T} {g : iq_I} {l : iq_J} {P : Int → Int} {S : Int64} {m : Int} {R : Int → Int} {a v : Int} (hz : iq_ZV P S m R) (hM : iq_MS g 0 P S m R) (ha : -2147483648 ≤ a ∧ a ≤ 2147483647) (hv : -2147483648 ≤ v ∧ v ≤ 2147483647) (q1 : sf_may (P 1) a v → ¬ P a = v → ∀ g' : iq_I, iq_KM iq_Mm g l g' l → iq_MS g' 0 (sf_rP P a v) (sf_rS P S a v) m R → g' 0 0 = g 0 0 → g' 77 1 = 0 → Q (some (iq_i (iq_m (sf_rP P a v)))) g' l) (q2 : sf_may (P 1) a v → P a = v → ∀ g' : iq_I, iq_KK g l g' l → g' 0 0 = g 0 0 → g' 77 1 = 7 → Q (some (iq_i (-1))) g' l) (q0 : ¬ sf_may (P 1) a v → ∀ g' : iq_I, iq_KK g l g' l → g' 0 0 = g 0 0 → g' 77 1 = 1 → Q (some (iq_i (-1))) g' l) : iq_P N xs 177 0 [some (iq_r 77), some (iq_i a), some (iq_i v), none] [] g l Q := by
  have hp := hz.1
  have hp1 := hp.2.1
  have hm := hz.2.2.1
  have e1 := hM.p 1 (by omega) (by omega)
  have r1 := sf_loR a
  have r2 := sf_hiR (a := a) hp1
  have no : ¬ sf_may (P 1) a v → iq_P N xs 98 0 [some (iq_r 77), some (iq_i 1)] [] g l (fun r g1 l2 => ∃ z3, r = some (iq_i z3) ∧ (Q (some (iq_i z3)) g1 l2)) := fun c => sp98 ⟨_, rfl, q0 c _ ((iq_KK.refl _ _).uz iq_sx771) (by simp [iq_uz]) (by simp [iq_uz])⟩
  refine B177_77 _ _ _ _ ⟨by omega, fun c => no (by unfold sf_may; omega), fun c1 => ⟨by omega, fun c => no (by unfold sf_may; omega), fun c2 => sp106 (by omega) ⟨_, rfl, ?_⟩⟩⟩
  rw [e1]
  refine sp107 (by omega) ⟨_, rfl, sp149 (fun x y => ⟨_, rfl, by omega, fun _ => ⟨by omega, ?_⟩, fun h => by omega⟩) (fun x => ⟨_, rfl, by omega, fun h => by omega, fun _ => no (fun w => x ?_)⟩)⟩
  · rw [iq_i2lv (by omega) (by omega), iq_i2lv (by omega) (by omega)] at x y
    have h : sf_may (P 1) a v := ⟨by omega, x, y⟩
    have ea := hM.p a c1 (by omega)
    have aR := sf_rvR (sf_pbrv hp) c1 (show a < 9 by omega)
    refine ⟨by omega, fun d => ⟨by omega, ?_⟩, fun d => sp98 ⟨_, rfl, q2 h (by omega) _ ((iq_KK.refl _ _).uz iq_sx771) (by simp [iq_uz]) (by simp [iq_uz])⟩⟩
    have hrv := sf_purv hp h
    have hp1' := hrv.2.1
    refine sp110 (off := 0) (P := sf_pu P a v) (by omega) hrv (fun k u w => ?_) (fun g1 f1 f2 f3 => ⟨rfl, ?_⟩)
    · rw [Int.zero_add]
      unfold sf_pu
      rw [← hM.p k u w]
      simp [iq_uz]
    · have f3' : ∀ k, 0 ≤ k → k < 9 → g1 78 k = sf_rP P a v k := fun k u w => by
        have := f3 k u w
        rw [Int.zero_add] at this
        exact this
      have e1' : g1 78 1 = sf_pu P a v 1 := f3' 1 (by omega) (by omega)
      have o1 : ∀ k, ¬ (0 ≤ k ∧ k < 9) → g1 78 k = g 78 k := fun k hk => by
        rw [f2 k (by omega), iq_uz78 (by omega)]
      have k1 : iq_78 g g1 := ⟨fun j hj => by rw [f1 j hj]; funext i; simp [iq_uz, hj], fun k hk => o1 k (by omega)⟩
      rw [e1']
      obtain ⟨pn, hpn⟩ : ∃ n : Nat, sf_pu P a v 1 = n := ⟨(sf_pu P a v 1).toNat, by omega⟩
      rw [hpn]
      refine sp177_c (g := g1) (p := sf_pu P a v 1) (by omega) (fun g2 h7 h8 h9 => ?_) (60 - pn) pn g1 (by omega) (by omega) (.refl g1) (fun _ _ => rfl) (fun t u w => by omega)
      have hzn := sf_rZV hz h
      have p2 : ∀ k, 0 ≤ k → k < 9 → g2 78 k = sf_rP P a v k := fun k u w => by rw [h8 k (by omega)]; exact f3' k u w
      refine sp114z hzn p2 (fun g3 t1 t2 t3 => ⟨rfl, ?_⟩)
      have e26 : g3 77 26 = iq_m (sf_rP P a v) := t3.1
      rw [e26]
      have e78 : g3 78 = g2 78 := t1 78 (by decide) (.inl (by decide))
      refine sp115 ⟨_, rfl, q1 h (by omega) _ ((((k1.km (l := l)).trans h7.km).trans ((iq_KKl t1 t2).km iq_Mm)).uz (.inl iq_sx771)) (.mk0 (fun k u w => ?_) (fun t u w => ?_) ?_ (fun k u w => ?_)) ?_ (by simp [iq_uz])⟩
      · rw [← p2 k u w, ← e78]; simp [iq_uz]
      · rw [show (iq_uz g3 77 1 0) 78 (20 + t) = g2 78 (20 + t) by rw [← e78]; simp [iq_uz], sf_rSb hp h, decide_eq_true u, Bool.true_and]
        by_cases c : t < sf_pu P a v 1
        · rw [decide_eq_true c, Bool.and_true, h8 _ (by omega), o1 _ (by omega)]
          exact hM.s t u w
        · rw [decide_eq_false c, Bool.and_false, h9 t (by omega) w]; rfl
      · rw [show (iq_uz g3 77 1 0) 78 9 = g2 78 9 by rw [← e78]; simp [iq_uz], h8 9 (by omega), o1 9 (by omega)]
        exact hM.n
      · rw [show (iq_uz g3 77 1 0) 78 (80 + k) = g2 78 (80 + k) by rw [← e78]; simp [iq_uz], h8 _ (by omega), o1 _ (by omega)]
        exact hM.r k u w
      · rw [← k1.1 0 (by decide), ← h7.1 0 (by decide), ← t1 0 (by decide) (.inl (by decide))]; simp [iq_uz]
  · rw [iq_i2lv (by omega) (by omega), iq_i2lv (by omega) (by omega), iq_i2lv (by omega) (by omega)]
    exact w.2
/-! flip -/
def sf_fp (P : Int → Int) : Int → Int := sf_pu (sf_pu P 2 ((-P 2) % P 1)) 4 (P 3 - 1 - P 4)
theorem sf_fpb {P : Int → Int} (hp : iq_pb P) (h : P 4 < P 3) : iq_pb (sf_fp P) := by
  obtain ⟨p0, p1, p2, p3, p4, p5, p6, p7, p8⟩ := hp
  have md : 0 ≤ (-P 2) % P 1 ∧ (-P 2) % P 1 < P 1 := ⟨Int.emod_nonneg _ (by omega), Int.emod_lt_of_pos _ (by omega)⟩
  unfold iq_pb sf_fp sf_pu
  simp
  omega
theorem cFlip {N : Nat} {xs : Nat → Int32} {Q : iq_T} {g : iq_I} {l : iq_J} {P : Int → Int} {S : Int64} {m : Int} {R : Int → Int} (hc : iq_CZ g l 23 24 25 P S m R) (q1 : P 4 < P 3 → ∀ (g' : iq_I) (l' : iq_J), iq_KM iq_Mc g l g' l' → iq_CZ g' l' 23 24 25 (sf_fp P) S m R → g' 0 0 = 0 → Q (some (iq_i (iq_m (sf_fp P)))) g' l') (q0 : ¬ P 4 < P 3 → ∀ (g' : iq_I) (l' : iq_J), iq_KK g l g' l' → g' 0 0 = 7 → Q (some (iq_i (-1))) g' l') : iq_P N xs 196 0 [some (iq_r 0), none, none] [] g l Q := by
  obtain ⟨c0, c1, rfl, c3, c4, c5⟩ := hc
  have hp := c0.1
  have hp1 := hp.2.1
  have hp2 := hp.2.2.1
  have hp3 := hp.2.2.2.1
  have hp4 := hp.2.2.2.2.1
  have e1 := c1 1 (by omega) (by omega)
  have e2 := c1 2 (by omega) (by omega)
  have e3 := c1 3 (by omega) (by omega)
  have e4 := c1 4 (by omega) (by omega)
  refine B196_0 _ _ (sp135_23 (by omega) ⟨_, rfl, sp135_23 (by omega) ⟨_, rfl, by omega, fun d => sp135_23 (by omega) ⟨_, rfl, sp5_23 (by omega) (by omega) ⟨_, rfl, sp83_23 (by omega) ⟨rfl, sp83_23 (by omega) ⟨rfl, ?_⟩⟩⟩⟩, fun d => sp44 ⟨_, rfl, q0 (by omega) _ _ ((iq_KK.refl _ _).uz iq_sx00) (by simp [iq_uz])⟩⟩⟩)
  rw [e1, e2, e3, e4]
  have hlt : P 4 < P 3 := by omega
  have hb := sf_fpb hp hlt
  have eP : ∀ k, 0 ≤ k → k < 9 → (iq_uz (iq_uz g 24 2 ((-P 2) % P 1)) 24 4 (P 3 - 1 - P 4)) 24 k = sf_fp P k := by
    intro k x y
    unfold sf_fp sf_pu
    rw [← c1 k x y]
    simp [iq_uz]
  have hpb' := iq_pb_congr eP hb
  refine sp9_23 (sf_pbrv hpb') (fun g2 y f1 f2 f3 => ⟨rfl, sp89_23 ⟨_, rfl, sp90 ⟨_, rfl, ?_⟩⟩⟩)
  have f2' : ∀ k, 0 ≤ k → k < 9 → g2 24 k = sf_fp P k := fun k x z => by rw [f2 k x z, sf_foldid hpb', eP k x z]
  have f3' : ∀ t, iq_tb y t = iq_f (sf_fp P) t := fun t => by
    rw [f3 t, iq_f_congr (P := sf_fp P) (fun k x z => by rw [sf_foldid hpb', eP k x z])]
  have e11 : (iq_uz (iq_uz g 24 2 ((-P 2) % P 1)) 24 4 (P 3 - 1 - P 4)) 24 1 = P 1 := by rw [eP 1 (by omega) (by omega)]; rfl
  have eS : l 23 3 &&& (iq_of (P 1) - 1) = l 23 3 := by
    refine iq_tb_ext (fun t x z => ?_)
    rw [iq_tb_and, iq_tbbl (by omega) (by omega)]
    rcases hbb : iq_tb (l 23 3) t with _ | _
    · rfl
    · have := c0.2.1 t hbb
      rw [decide_eq_true x, decide_eq_true this]; rfl
  rw [e11, eS]
  rw [show (iq_uz (iq_uz l 23 3 (l 23 3)) 23 4 y) 23 4 = y by simp [iq_uz], iq_cn_congr (h := iq_f (sf_fp P)) (fun t _ _ => f3' t), iq_fm64 hb]
  have g2o : ∀ j, ¬ j = 24 → g2 j = g j := fun j hj => by rw [f1 j hj]; funext i; simp [iq_uz, hj]
  refine q1 hlt _ _ (((((iq_KM.ofg (M := iq_Mc) (fun j k x y => ?_)).ul (iq_Mc2 (by omega)) (by decide) (by decide)).ul (iq_Mc2 (by omega)) (by decide) (by decide))).uz (.inl iq_sx00)) ⟨⟨hb, fun t ht => ?_, c0.2.2⟩, fun k x y => ?_, ?_, fun t => ?_, ?_, fun k x y => ?_⟩ (by simp [iq_uz])
  · rw [g2o j (fun e => by rw [e] at y; simp [iq_Mc] at y)]
  · exact c0.2.1 t ht
  · rw [← f2' k x y]; simp [iq_uz]
  · simp [iq_uz]
  · rw [← f3' t]; simp [iq_uz]
  · rw [← c4, ← g2o 23 (by decide)]; simp [iq_uz]
  · rw [← c5 k x y, ← g2o 25 (by decide)]; simp [iq_uz]
theorem mFlip {N : Nat} {xs : Nat → Int32} {Q : iq_T} {g : iq_I} {l : iq_J} {P : Int → Int} {S : Int64} {m : Int} {R : Int → Int} (hz : iq_ZV P S m R) (hM : iq_MS g 0 P S m R) (q1 : P 4 < P 3 → ∀ g' : iq_I, iq_KM iq_Mm g l g' l → iq_MS g' 0 (sf_fp P) S m R → g' 0 0 = g 0 0 → g' 77 1 = 0 → Q (some (iq_i (iq_m (sf_fp P)))) g' l) (q0 : ¬ P 4 < P 3 → ∀ g' : iq_I, iq_KK g l g' l → g' 0 0 = g 0 0 → g' 77 1 = 7 → Q (some (iq_i (-1))) g' l) : iq_P N xs 197 0 [some (iq_r 77)] [] g l Q := by
  have hp := hz.1
  have hp1 := hp.2.1
  have hp2 := hp.2.2.1
  have hp3 := hp.2.2.2.1
  have hp4 := hp.2.2.2.2.1
  have hm := hz.2.2.1
  have e1 := hM.p 1 (by omega) (by omega)
  have e2 := hM.p 2 (by omega) (by omega)
  have e3 := hM.p 3 (by omega) (by omega)
  have e4 := hM.p 4 (by omega) (by omega)
  refine B197_77 _ _ ⟨by omega, fun d => ?_, fun d => sp98 ⟨_, rfl, q0 (by omega) _ ((iq_KK.refl _ _).uz iq_sx771) (by simp [iq_uz]) (by simp [iq_uz])⟩⟩
  have hlt : P 4 < P 3 := by omega
  have hb := sf_fpb hp hlt
  rw [e1, e2]
  refine sp111 (by omega) (by omega) ⟨_, rfl, ?_⟩
  rw [e3, e4]
  have p2 : ∀ k, 0 ≤ k → k < 9 → (iq_uz (iq_uz g 78 2 ((-P 2) % P 1)) 78 4 (P 3 - 1 - P 4)) 78 k = sf_fp P k := by
    intro k x y
    unfold sf_fp sf_pu
    rw [← hM.p k x y]
    simp [iq_uz]
  have k1 : iq_78 g (iq_uz (iq_uz g 78 2 ((-P 2) % P 1)) 78 4 (P 3 - 1 - P 4)) := ((iq_78.refl g).uz (by omega)).uz (by omega)
  have hzn : iq_ZV (sf_fp P) S m R := ⟨hb, hz.2.1, hz.2.2⟩
  refine sp114z hzn p2 (fun g3 t1 t2 t3 => ⟨rfl, ?_⟩)
  have e26 : g3 77 26 = iq_m (sf_fp P) := t3.1
  rw [e26]
  have e78 : g3 78 = (iq_uz (iq_uz g 78 2 ((-P 2) % P 1)) 78 4 (P 3 - 1 - P 4)) 78 := t1 78 (by decide) (.inl (by decide))
  have o : ∀ k, ¬ k = 2 → ¬ k = 4 → g3 78 k = g 78 k := fun k x y => by rw [e78, iq_uz78 y, iq_uz78 x]
  refine sp115 ⟨_, rfl, q1 hlt _ (((k1.km (l := l)).trans ((iq_KKl t1 t2).km iq_Mm)).uz (.inl iq_sx771)) (.mk0 (fun k u w => ?_) (fun t u w => ?_) ?_ (fun k u w => ?_)) ?_ (by simp [iq_uz])⟩
  · rw [← p2 k u w, ← e78]; simp [iq_uz]
  · rw [← hM.s t u w, ← o _ (by omega) (by omega)]; simp [iq_uz]
  · rw [← hM.n, ← o _ (by omega) (by omega)]; simp [iq_uz]
  · rw [← hM.r k u w, ← o _ (by omega) (by omega)]; simp [iq_uz]
  · rw [← k1.1 0 (by decide), ← t1 0 (by decide) (.inl (by decide))]; simp [iq_uz]
