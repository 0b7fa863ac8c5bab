/-! Sift and glide. -/
theorem sf_cnd (f h : Int → Bool) (n : Nat) : iq_cn (fun u => f u && h u) n + iq_cn (fun u => f u && !h u) n = iq_cn f n := by
  induction n with
  | zero => simp [iq_cn]
  | succ n ih =>
    rw [iq_cn, iq_cn, iq_cn, ← ih]
    rcases f n with _ | _ <;> rcases h n with _ | _ <;> simp <;> omega
theorem sp114z {N : Nat} {xs : Nat → Int32} {Q : iq_T} {g : iq_I} {l : iq_J} {P : Int → Int} {S : Int64} {m : Int} {R : Int → Int} (hv : iq_ZV P S m R) (h78 : ∀ k, 0 ≤ k → k < 9 → g 78 k = P k) (q : ∀ g' : iq_I, (∀ j, ¬ j = 77 → (j < 85 ∨ 88 < j) → g' j = g j) → (∀ k, ¬ k = 26 → ¬ k = 27 → g' 77 k = g 77 k) → iq_LS g' P → Q none g' l) : iq_P N xs 114 0 [some (iq_r 77)] [] g l Q := by
  have hp := hv.1
  refine sp114 (iq_pb_congr h78 hp) (fun g' a b c d e => q g' a b (sf_LYS hp ?_))
  have ef : iq_dg (iq_ch (g 78 1) (g 78 4) (g 78 2) (g 78 5)) (g 78 3).toNat = iq_f P := iq_f_congr h78
  rw [ef, h78 1 (by omega) (by omega)] at c
  exact c
theorem cSift {N : Nat} {xs : Nat → Int32} {Q : iq_T} {g : iq_I} {l : iq_J} {P : Int → Int} {S : Int64} {m : Int} {R : Int → Int} (hc : iq_CZ g l 23 24 25 P S m R) (q : ∀ (g' : iq_I) (l' : iq_J) (S' : Int64), (∀ t, iq_tb S' t = (iq_tb S t && iq_f P t)) → iq_KM iq_Mc g l g' l' → iq_CZ g' l' 23 24 25 P S' m R → g' 0 0 = 0 → Q (some (iq_i (iq_cn (iq_tb S) 64 - iq_cn (iq_tb S') 64))) g' l') : iq_P N xs 186 0 [some (iq_r 0), none] [] g l Q := by
  obtain ⟨c0, c1, rfl, c3, c4, c5⟩ := hc
  refine B186_0 _ _ (sp88 ⟨_, rfl, sp88 ⟨_, rfl, sp90 ⟨_, rfl, q _ _ (l 23 3 &&& l 23 4) (fun t => by rw [iq_tb_and, c3 t]) ((((iq_KK.refl g l).km iq_Mc).ul (iq_Mc2 (by omega)) (by decide) (by decide)).uz (.inl iq_sx00)) ⟨⟨c0.1, fun u hu => ?_, c0.2.2⟩, fun k a b => ?_, by simp [iq_uz], fun u => ?_, ?_, fun k a b => ?_⟩ (by simp [iq_uz])⟩⟩⟩)
  · rw [iq_tb_and, Bool.and_eq_true] at hu
    exact c0.2.1 u hu.1
  · rw [← c1 k a b]; simp [iq_uz]
  · rw [← c3 u]; simp [iq_uz]
  · rw [← c4]; simp [iq_uz]
  · rw [← c5 k a b]; simp [iq_uz]
theorem sp187_p {N : Nat} {xs : Nat → Int32} {Q : iq_T} {l : iq_J} {g : iq_I} {P : Int → Int} {S S' : Int64} {m : Int} {R : Int → Int} (hv : iq_ZV P S m R) (hS' : ∀ t, iq_tb S' t = (iq_tb S t && iq_f P t)) (h87 : ∀ u : Nat, u < 60 → g 87 u = if iq_f P u = true then iq_cn (iq_f P) u else -1) (q : ∀ g' : iq_I, iq_78 g g' → iq_MS g' 0 P S' m R → Q (some (iq_i (iq_cn (fun u => iq_tb S u && !iq_f P u) (P 1).toNat))) (iq_uz g' 77 1 0) l) (n : Nat) : ∀ (v : Nat) (g1 : iq_I) (T : Int64), (v : Int) + n = P 1 → iq_78 g g1 → iq_ZV P T m R → iq_MS g1 0 P T m R → (∀ u, 0 ≤ u → u < 64 → iq_tb T u = (iq_tb S u && (iq_f P u || decide ((v : Int) ≤ u)))) → iq_P N xs 187 8 [some (iq_r 77), some (iq_i (iq_cn (fun u => iq_tb S u && !iq_f P u) v)), some (iq_i v)] [] g1 l Q := by
  have hp1 := hv.1.2.1
  induction n with
  | zero =>
    intro v g1 T h a b c d
    have e1 := c.p 1 (by omega) (by omega)
    have eT : T = S' := by
      refine iq_tb_ext (fun u x y => ?_)
      rw [d u x y, hS' u]
      rcases hb : iq_tb S u with _ | _
      · rfl
      · have := hv.2.1 u hb
        rw [decide_eq_false (by omega), Bool.or_false]
    rw [eT] at c
    rw [show (P 1).toNat = v by omega] at q
    exact B187_p8_77 _ _ _ _ ⟨by omega, fun _ => sp115 ⟨_, rfl, q g1 a c⟩, fun h => by omega⟩
  | succ n ih =>
    intro v g1 T h a b c d
    have e1 := c.p 1 (by omega) (by omega)
    have e87 : g1 87 v = if iq_f P v = true then iq_cn (iq_f P) v else -1 := by rw [a.1 87 (by decide)]; exact h87 v (by omega)
    have hn := iq_cn_nonneg (iq_f P) v
    have nx := fun g1 T => ih (v + 1) g1 T (by omega)
    rw [iq_cn] at nx
    refine B187_p8_77 _ _ _ _ ⟨by omega, fun h => by omega, fun _ => ⟨by omega, ?_⟩⟩
    rw [e87]
    have stay : iq_tb S v = true → iq_f P v = false → False → False := fun _ _ h => h
    have same : (iq_f P v = true ∨ iq_tb T v = false) → ∀ u, 0 ≤ u → u < 64 → iq_tb T u = (iq_tb S u && (iq_f P u || decide (((v + 1 : Nat) : Int) ≤ u))) := by
      intro hh u x y
      rw [d u x y]
      by_cases e : u = v
      · rw [e]
        rcases hh with hh | hh
        · rw [hh]; simp
        · rw [d v (by omega) (by omega), decide_eq_true (Int.le_refl _), Bool.or_true, Bool.and_true] at hh
          rw [hh]; simp
      · congr 2
        refine iq_beq ?_
        simp only [decide_eq_true_eq]
        omega
    rcases hb : iq_f P v with _ | _
    · refine ⟨by simp, fun h => by simp at h, fun _ => ?_⟩
      have eTS : iq_tb T v = iq_tb S v := by
        rw [d v (by omega) (by omega), decide_eq_true (Int.le_refl _), Bool.or_true, Bool.and_true]
      refine sp184 b c (by omega) (fun x y z => ⟨_, rfl, by omega, fun h => by omega, fun _ => ?_⟩) (fun x => ⟨_, rfl, by omega, fun _ => ?_, fun h => by omega⟩)
      · rw [eTS] at y
        rw [hb, y] at nx
        refine nx _ _ (a.uz (by omega)) ⟨b.1, fun u hu => ?_, b.2.2⟩ z (fun u x' y' => ?_)
        · rw [iq_tb_and, Bool.and_eq_true] at hu
          exact b.2.1 u hu.1
        · rw [sf_tbcl (by omega) ⟨x', y'⟩, d u x' y']
          by_cases e : u = v
          · rw [e, hb]; simp; omega
          · rw [decide_eq_false e, Bool.not_false, Bool.and_true]
            congr 2
            refine iq_beq ?_
            simp only [decide_eq_true_eq]
            omega
      · have y : iq_tb S v = false := by
          rcases hz : iq_tb S v with _ | _
          · rfl
          · exact (x ⟨⟨by omega, by omega⟩, by rw [eTS]; exact hz⟩).elim
        rw [hb, y] at nx
        exact nx _ _ a b c (same (.inr (by rw [eTS]; exact y)))
    · refine ⟨by simp; omega, fun _ => ?_, fun h => by simp at h; omega⟩
      rw [hb, Bool.not_true, Bool.and_false] at nx
      exact nx _ _ a b c (same (.inl hb))
theorem mSift {N : Nat} {xs : Nat → Int32} {Q : iq_T} {g : iq_I} {l : iq_J} {P : Int → Int} {S S' : Int64} {m : Int} {R : Int → Int} (hv : iq_ZV P S m R) (hM : iq_MS g 0 P S m R) (hS' : ∀ t, iq_tb S' t = (iq_tb S t && iq_f P t)) (q : ∀ g' : iq_I, iq_KM iq_Mm g l g' l → iq_MS g' 0 P S' m R → g' 0 0 = g 0 0 → g' 77 1 = 0 → Q (some (iq_i (iq_cn (iq_tb S) 64 - iq_cn (iq_tb S') 64))) g' l) : iq_P N xs 187 0 [some (iq_r 77), none, none] [] g l Q := by
  have hp1 := hv.1.2.1
  refine B187_77 _ _ (sp114z hv hM.p (fun g1 f1 f2 f3 => ⟨rfl, ?_⟩))
  have e78 : g1 78 = g 78 := f1 78 (by decide) (.inl (by decide))
  have hM1 : iq_MS g1 0 P S m R := by unfold iq_MS; rw [e78]; exact hM
  refine sp187_p (g := g1) hv hS' f3.2.2.1 (fun g2 h7 h8 => ?_) (P 1).toNat 0 g1 S (by omega) (.refl g1) hv hM1 (fun u x y => ?_)
  · have ec : iq_cn (fun u => iq_tb S u && !iq_f P u) (P 1).toNat = iq_cn (iq_tb S) 64 - iq_cn (iq_tb S') 64 := by
      have z := sf_cnd (iq_tb S) (iq_f P) 64
      rw [iq_cn_congr (f := iq_tb S') (h := fun u => iq_tb S u && iq_f P u) (fun u _ _ => hS' u)]
      rw [iq_cn_ext (f := fun u => iq_tb S u && !iq_f P u) (a := (P 1).toNat) (b := 64) (by omega) (fun i x y => ?_)] at z
      · omega
      · rcases hb : iq_tb S i with _ | _
        · rfl
        · have := hv.2.1 i hb; omega
    rw [ec]
    refine q _ ((((iq_KKl f1 f2).km iq_Mm).trans h7.km).uz (.inl iq_sx771)) (.mk0 (fun k u v => ?_) (fun k u v => ?_) ?_ (fun k u v => ?_)) ?_ (by simp [iq_uz])
    · rw [← h8.p k u v]; simp [iq_uz]
    · rw [← h8.s k u v]; simp [iq_uz]
    · rw [← h8.n]; simp [iq_uz]
    · rw [← h8.r k u v]; simp [iq_uz]
    · rw [← f1 0 (by decide) (.inl (by decide)), ← h7.1 0 (by decide)]; simp [iq_uz]
  · rw [decide_eq_true (by omega), Bool.or_true, Bool.and_true]
/-! glide -/
theorem sf_fitcg {P P' : Int → Int} (h : ∀ k, 0 ≤ k → k < 9 → P' k = P k) (S : Int64) (gen root : Int) : sf_fit P' S gen root = sf_fit P S gen root := by
  unfold sf_fit sf_D
  rw [h 1 (by omega) (by omega), h 3 (by omega) (by omega), h 4 (by omega) (by omega)]
theorem cGlide {N : Nat} {xs : Nat → Int32} {Q : iq_T} {g : iq_I} {l : iq_J} {P : Int → Int} {S : Int64} {m : Int} {R : Int → Int} {n : Int} (hc : iq_CZ g l 23 24 25 P S m R) (hn : -2147483648 ≤ n ∧ n ≤ 2147483647) (q1 : 0 ≤ n ∧ n < 60 → ∀ (g' : iq_I) (l' : iq_J) (S' : Int64), (∀ t, iq_tb S' t = (decide (0 ≤ t) && decide (t < P 1) && iq_tb S ((t - n) % P 1))) → iq_KM iq_Mc g l g' l' → iq_CZ g' l' 23 24 25 P S' m R → g' 0 0 = 0 → Q (some (iq_i (sf_fit P S' (P 2) (P 5)))) g' l') (q0 : ¬ (0 ≤ n ∧ n < 60) → ∀ (g' : iq_I) (l' : iq_J), iq_KK g l g' l' → g' 0 0 = 1 → Q (some (iq_i (-1))) g' l') : iq_P N xs 190 0 [some (iq_r 0), some (iq_i n)] [] g l Q := by
  obtain ⟨c0, c1, rfl, c3, c4, c5⟩ := hc
  have hp1 := c0.1.2.1
  have e1 := c1 1 (by omega) (by omega)
  have no : ¬ (0 ≤ n ∧ n < 60) → iq_P N xs 44 0 [some (iq_r 0), some (iq_i 1)] [] g l (fun r g1 l2 => ∃ z3, r = some (iq_i z3) ∧ (Q (some (iq_i z3)) g1 l2)) := fun c => sp44 ⟨_, rfl, q0 c _ _ ((iq_KK.refl _ _).uz iq_sx00) (by simp [iq_uz])⟩
  refine B190_0 _ _ _ ⟨by omega, fun c => no (by omega), fun a => ⟨by omega, fun b => sp5_23 (by omega) (by omega) ⟨_, rfl, B80_23 _ _ ⟨_, rfl, ?_⟩⟩, fun c => no (by omega)⟩⟩
  rw [e1]
  refine sp188 (by omega) ⟨_, rfl, sp189_23 ⟨_, rfl, sp90 ⟨_, rfl, ?_⟩⟩⟩
  have r1 := Int.emod_nonneg n (show P 1 ≠ 0 by omega)
  have r2 := Int.emod_lt_of_pos n (show 0 < P 1 by omega)
  have hb : ∀ t, iq_tb (iq_turn (l 23 3) (n % P 1) (P 1)) t = (decide (0 ≤ t) && decide (t < P 1) && iq_tb (l 23 3) ((t - n) % P 1)) := by
    intro t
    rw [iq_tbturn r1 r2 (by omega) c0.2.1 t, Int.sub_emod_emod]
  have et : ((iq_lsl (l 23 3) (n % P 1) ||| iq_lsr (l 23 3) (P 1 - n % P 1)) &&& (iq_of (P 1) - 1)) = iq_turn (l 23 3) (n % P 1) (P 1) := rfl
  rw [et]
  have ef : iq_cn (iq_tb ((iq_uz l 23 3 (iq_turn (l 23 3) (n % P 1) (P 1))) 23 3 &&& (iq_uz l 23 3 (iq_turn (l 23 3) (n % P 1) (P 1))) 23 4)) 64 = sf_fit P (iq_turn (l 23 3) (n % P 1) (P 1)) (P 2) (P 5) := by
    unfold sf_fit
    refine iq_cn_congr (fun i x y => ?_)
    rw [iq_tb_and, show (iq_uz l 23 3 (iq_turn (l 23 3) (n % P 1) (P 1))) 23 3 = iq_turn (l 23 3) (n % P 1) (P 1) by simp [iq_uz], show (iq_uz l 23 3 (iq_turn (l 23 3) (n % P 1) (P 1))) 23 4 = l 23 4 by simp [iq_uz], c3 i, Bool.and_comm]
    rfl
  rw [ef]
  refine q1 ⟨a, b⟩ _ _ _ hb ((((iq_KK.refl g l).km iq_Mc).ul (iq_Mc2 (by omega)) (by decide) (by decide)).uz (.inl iq_sx00)) ⟨⟨c0.1, fun u hu => ?_, c0.2.2⟩, fun k x y => ?_, by simp [iq_uz], fun u => ?_, ?_, fun k x y => ?_⟩ (by simp [iq_uz])
  · rw [hb u, Bool.and_eq_true, Bool.and_eq_true, decide_eq_true_eq, decide_eq_true_eq] at hu
    exact hu.1.2
  · rw [← c1 k x y]; simp [iq_uz]
  · rw [← c3 u]; simp [iq_uz]
  · rw [← c4]; simp [iq_uz]
  · rw [← c5 k x y]; simp [iq_uz]
