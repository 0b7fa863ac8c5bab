/-! steps, both sides. -/
theorem cSteps {N : Nat} {xs : Nat → Int32} {Q : iq_T} {g : iq_I} {l : iq_J} {t n : Int} (hs : iq_SR g l 23 24 25 0) (hT : iq_TR g l) (ht : -2147483648 ≤ t ∧ t ≤ 2147483647) (hn : -2147483648 ≤ n ∧ n ≤ 2147483647) (q1 : sf_ws g t n = 0 → sf_okv (fun k => l 81 (60 * t + k)) (g 24 1) n → Q (some (iq_i (aSteps (g 24) (fun k => l 81 (60 * t + k)) n))) (iq_uz g 0 0 0) l) (q5 : sf_ws g t n = 0 → ¬ sf_okv (fun k => l 81 (60 * t + k)) (g 24 1) n → Q (some (iq_i (-1))) (iq_uz g 0 0 5) l) (q0 : ¬ sf_ws g t n = 0 → Q (some (iq_i (-1))) (iq_uz g 0 0 (sf_ws g t n)) l) : iq_P N xs 315 0 [some (iq_r 0), some (iq_i t), some (iq_i n), none, none, none, none] [] g l Q := by
  have key : ∀ u : Int, 0 ≤ u ∧ u < 4 → ((0 ≤ n ∧ n ≤ 60) ∧ sf_rn2 (g 80 u) n = 0 → sf_ws g u n = 0) ∧ (¬ ((0 ≤ n ∧ n ≤ 60) ∧ sf_rn2 (g 80 u) n = 0) → ¬ sf_ws g u n = 0) ∧ sf_ws g u n = (if 0 ≤ n ∧ n ≤ 60 then sf_rn2 (g 80 u) n else 1) := by
    intro u hu
    unfold sf_ws
    by_cases c : 0 ≤ n ∧ n ≤ 60
    · rw [if_pos ⟨hu, c⟩, if_pos c]
      exact ⟨fun z => z.2, fun z y => z ⟨c, y⟩, rfl⟩
    · rw [if_neg (fun z => c z.2), if_neg c]
      exact ⟨fun z => absurd z.1 c, fun _ => by omega, rfl⟩
  refine B315_0 _ _ _ _ (sp27 ht (fun c => ?_) (fun e => ?_) (fun e => ?_) (fun e => ?_) (fun e => ?_))
  · have e : sf_ws g t n = 1 := by unfold sf_ws; rw [if_neg (fun z => c z.1)]
    rw [e] at q0
    have q0 := q0 (by omega)
    exact B315_q5_null _ _ _ _ ⟨by omega, fun _ => sp44 ⟨_, rfl, q0⟩, fun _ => ⟨by omega, fun _ => B311_null _ _ _ ⟨_, rfl, sp44 ⟨_, rfl, q0⟩⟩, fun _ => sp44 ⟨_, rfl, q0⟩⟩⟩
  · subst e
    obtain ⟨k1, k2, k3⟩ := key 0 (by omega)
    rw [k3] at q0
    exact sp315_2 hs hT hn (fun z => q1 (k1 z)) (fun z => q5 (k1 z)) (fun z => q0 (by rw [← k3]; exact k2 z))
  · subst e
    obtain ⟨k1, k2, k3⟩ := key 1 (by omega)
    rw [k3] at q0
    exact sp315_4 hs hT hn (fun z => q1 (k1 z)) (fun z => q5 (k1 z)) (fun z => q0 (by rw [← k3]; exact k2 z))
  · subst e
    obtain ⟨k1, k2, k3⟩ := key 2 (by omega)
    rw [k3] at q0
    exact sp315_6 hs hT hn (fun z => q1 (k1 z)) (fun z => q5 (k1 z)) (fun z => q0 (by rw [← k3]; exact k2 z))
  · subst e
    obtain ⟨k1, k2, k3⟩ := key 3 (by omega)
    rw [k3] at q0
    exact sp315_8 hs hT hn (fun z => q1 (k1 z)) (fun z => q5 (k1 z)) (fun z => q0 (by rw [← k3]; exact k2 z))
theorem sf_modS {a m : Int} (h : 0 ≤ a ∧ a < m) : (a + 1) % m = if a = m - 1 then 0 else a + 1 := by
  split
  · next e => rw [e, show m - 1 + 1 = m by omega, Int.emod_self]
  · exact Int.emod_eq_of_lt (by omega) (by omega)
theorem sp316 {N : Nat} {xs : Nat → Int32} {Q : iq_T} {g : iq_I} {l : iq_J} {P : Int → Int} {x y : Int} (hp : iq_pb P) (hL : iq_LS g P) (hx : 0 ≤ x ∧ x < 60) (hy : 0 ≤ y ∧ y < 60) (q1 : sf_bs2 P x y = true → Q (some (iq_i 1)) g l) (q0 : sf_bs2 P x y = false → Q (some (iq_i 0)) g l) : iq_P N xs 316 0 [some (iq_r 77), some (iq_i x), some (iq_i y), none, none] [] g l Q := by
  have hm := iq_mR hp
  have hp3 := hp.2.2.2.1
  have e26 : g 77 26 = iq_m P := hL.1
  have ex := hL.2.2.1 x.toNat (by omega)
  have ey := hL.2.2.1 y.toNat (by omega)
  rw [Int.toNat_of_nonneg hx.1] at ex
  rw [Int.toNat_of_nonneg hy.1] at ey
  unfold sf_bs2 at q1 q0
  refine B316_77 _ _ _ _ ⟨hx, hy, ?_⟩
  rw [ex, ey, e26]
  rcases hbx : iq_f P x with _ | _
  · rw [hbx, Bool.false_and] at q0
    exact ⟨by simp, fun _ => q0 rfl, fun h => by simp at h⟩
  · have r1 := sf_dgR hp hbx
    rw [if_pos rfl]
    rcases hby : iq_f P y with _ | _
    · rw [hby, Bool.false_and, Bool.and_false] at q0
      exact ⟨by omega, fun h => by omega, fun _ => ⟨by simp, fun _ => q0 rfl, fun h => by simp at h⟩⟩
    · have r2 := sf_dgR hp hby
      rw [hbx, hby, Bool.true_and, Bool.true_and] at q1 q0
      unfold sf_bsd at q1 q0
      rw [decide_eq_true_eq] at q1
      rw [decide_eq_false_iff_not] at q0
      rw [if_pos rfl]
      rw [Int.tmod_eq_emod_of_nonneg (by omega), Int.tmod_eq_emod_of_nonneg (by omega), sf_modS r1, sf_modS r2]
      generalize iq_cn (iq_f P) x.toNat = a at *
      generalize iq_cn (iq_f P) y.toNat = b at *
      generalize iq_m P = m at *
      refine ⟨by omega, fun h => by omega, fun _ => ⟨by omega, fun h => by omega, fun _ => ⟨by omega, by split <;> omega, fun e => q1 ?_, fun e => ⟨by omega, by split <;> omega, fun f => q0 ?_, fun f => q1 ?_⟩⟩⟩⟩
      · split at e <;> omega
      · split at e <;> split at f <;> omega
      · split at f <;> omega
theorem sp317_c {N : Nat} {xs : Nat → Int32} {Q : iq_T} {g : iq_I} {l : iq_J} {P : Int → Int} {t n : Int} (hp : iq_pb P) (hL : iq_LS g P) (ht : 0 ≤ t ∧ t < 4) (hk : 0 ≤ n ∧ n ≤ 60) (ok : sf_okv (fun k => l 81 (60 * t + k)) (P 1) n) (q : Q (some (iq_i (aSteps P (fun k => l 81 (60 * t + k)) n))) (iq_uz g 77 1 0) l) (m : Nat) : ∀ v : Nat, (v + 1 : Int) + m = n ∨ ((v + 1 : Int) ≥ n ∧ m = 0 ∧ v = (n - 1).toNat) → iq_P N xs 317 118 [some (iq_r 77), some (iq_i t), some (iq_i n), some (iq_i (60 * t)), some (iq_i (iq_cn (fun i => sf_sb P (fun k => l 81 (60 * t + k)) (i + 1)) v)), some (iq_i ((v : Int) + 1))] [] g l Q := by
  have hp1 := hp.2.1
  induction m with
  | zero =>
    intro v h
    have ev : (n - 1).toNat = v := by omega
    unfold aSteps at q
    rw [ev] at q
    exact B317_p118_77 _ _ _ _ _ _ _ ⟨by omega, fun _ => sp115 ⟨_, rfl, q⟩, fun h => by omega⟩
  | succ m ih =>
    intro v h
    have h : (v + 1 : Int) + (m + 1 : Nat) = n := by omega
    have nx := ih (v + 1) (by omega)
    rw [iq_cn] at nx
    have o1 := ok v (by omega) (by omega)
    have o2 := ok ((v : Int) + 1) (by omega) (by omega)
    have o1 : 0 ≤ (l 81 (60 * t + v)).toInt ∧ (l 81 (60 * t + v)).toInt < P 1 := o1
    have o2 : 0 ≤ (l 81 (60 * t + ((v : Int) + 1))).toInt ∧ (l 81 (60 * t + ((v : Int) + 1))).toInt < P 1 := o2
    refine B317_p118_77 _ _ _ _ _ _ _ ⟨by omega, fun h => by omega, fun _ => ⟨by omega, by omega, ?_⟩⟩
    rw [show 60 * t + ((v : Int) + 1) - 1 = 60 * t + v by omega]
    have e1 := sf_l2i (x := l 81 (60 * t + v)) (by omega)
    have e2 := sf_l2i (x := l 81 (60 * t + ((v : Int) + 1))) (by omega)
    have eb : sf_sb P (fun k => l 81 (60 * t + k)) ((v : Int) + 1) = sf_bs2 P (iq_l2i (l 81 (60 * t + v))) (iq_l2i (l 81 (60 * t + ((v : Int) + 1)))) := by
      unfold sf_sb
      rw [show (v : Int) + 1 - 1 = v by omega]
    refine sp316 hp hL (by omega) (by omega) (fun c => ⟨_, rfl, by omega, fun h => by omega, fun _ => ?_⟩) (fun c => ⟨_, rfl, by omega, fun _ => ?_, fun h => by omega⟩)
    · rw [eb, c] at nx; exact nx
    · rw [eb, c] at nx; exact nx
theorem sp317_o {N : Nat} {xs : Nat → Int32} {Q : iq_T} {g : iq_I} {l : iq_J} {t n : Int} (hs : iq_SR g l 23 24 25 0) (ht : 0 ≤ t ∧ t < 4) (hk : 0 ≤ n ∧ n ≤ 60) (q1 : sf_okv (fun k => l 81 (60 * t + k)) (g 24 1) n → ∀ g' : iq_I, iq_KK g l g' l → g' 0 0 = g 0 0 → g' 77 1 = 0 → Q (some (iq_i (aSteps (g 24) (fun k => l 81 (60 * t + k)) n))) g' l) (q5 : ¬ sf_okv (fun k => l 81 (60 * t + k)) (g 24 1) n → Q (some (iq_i (-1))) (iq_uz g 77 1 5) l) (m : Nat) : ∀ v : Nat, (v : Int) + m = n → sf_okv (fun k => l 81 (60 * t + k)) (g 24 1) v → iq_P N xs 317 65 [some (iq_r 77), some (iq_i t), some (iq_i n), some (iq_i (60 * t)), some (iq_i v), none] [] g l Q := by
  have hp1 := hs.1.2.1
  have e78 := hs.p78 1 (by omega) (by omega)
  have ep : (iq_i2l (g 24 1) - 1).toInt = g 24 1 - 1 := by
    rw [Int64.toInt_sub, iq_i2lv (by omega) (by omega), show (1 : Int64).toInt = 1 by decide]
    exact Int.bmod_eq_of_le (by omega) (by omega)
  induction m with
  | zero =>
    intro v h ok
    have ev : (v : Int) = n := by omega
    rw [ev] at ok ⊢
    refine B317_p65_77 _ _ _ _ _ _ ⟨by omega, fun _ => sp114c hs (fun g1 f1 f2 f3 => ⟨rfl, ?_⟩), fun h => by omega⟩
    have kz : g1 0 0 = g 0 0 := congrFun (f1 0 (by decide) (.inl (by decide))) 0
    exact sp317_c hs.1 f3 ht hk ok (q1 ok _ ((iq_KKl f1 f2).uz iq_sx771) (by simp [iq_uz, kz]) (by simp [iq_uz])) (n - 1).toNat 0 (by omega)
  | succ m ih =>
    intro v h ok
    refine B317_p65_77 _ _ _ _ _ _ ⟨by omega, fun h => by omega, fun _ => ⟨by omega, ?_⟩⟩
    rw [e78]
    refine sp149 (fun c d => ⟨_, rfl, by omega, fun _ => ih (v + 1) (by omega) (fun k x y => ?_), fun h => by omega⟩) (fun c => ⟨_, rfl, by omega, fun h => by omega, fun _ => sp98 ⟨_, rfl, q5 (fun o => ?_)⟩⟩)
    · rw [iq_of640] at c
      rw [ep] at d
      by_cases e : k = v
      · rw [e]; exact ⟨c, by have d' : (l 81 (60 * t + v)).toInt ≤ g 24 1 - 1 := d; show (l 81 (60 * t + v)).toInt < g 24 1; omega⟩
      · exact ok k x (by omega)
    · have o' := o v (by omega) (by omega)
      have o' : 0 ≤ (l 81 (60 * t + v)).toInt ∧ (l 81 (60 * t + v)).toInt < g 24 1 := o'
      rw [iq_of640, ep] at c
      omega
theorem mSteps {N : Nat} {xs : Nat → Int32} {Q : iq_T} {g : iq_I} {l : iq_J} {t n : Int} (hs : iq_SR g l 23 24 25 0) (hT : iq_TR g l) (ht : -2147483648 ≤ t ∧ t ≤ 2147483647) (hn : -2147483648 ≤ n ∧ n ≤ 2147483647) (q1 : sf_ws g t n = 0 → sf_okv (fun k => l 81 (60 * t + k)) (g 24 1) n → ∀ g' : iq_I, iq_KK g l g' l → g' 0 0 = g 0 0 → g' 77 1 = 0 → Q (some (iq_i (aSteps (g 24) (fun k => l 81 (60 * t + k)) n))) g' l) (q5 : sf_ws g t n = 0 → ¬ sf_okv (fun k => l 81 (60 * t + k)) (g 24 1) n → Q (some (iq_i (-1))) (iq_uz g 77 1 5) l) (q0 : ¬ sf_ws g t n = 0 → Q (some (iq_i (-1))) (iq_uz g 77 1 (sf_ws g t n)) l) : iq_P N xs 317 0 [some (iq_r 77), some (iq_i t), some (iq_i n), none, none, none] [] g l Q := by
  have en := iq_i2lv hn.1 hn.2
  have e60 : (Int64.ofNat 60).toInt = 60 := by decide
  unfold sf_ws at q1 q5 q0
  refine B317_77 _ _ _ _ (sp32 ht (fun c => ⟨_, rfl, by omega, fun h => by omega, fun _ => sp149 (fun x y => ⟨_, rfl, by omega, fun _ => ⟨c, ?_⟩, fun h => by omega⟩) (fun x => ⟨_, rfl, by omega, fun h => by omega, fun _ => sp98 ⟨_, rfl, ?_⟩⟩)⟩) (fun c => ⟨_, rfl, by omega, fun _ => sp98 ⟨_, rfl, ?_⟩, fun h => by omega⟩))
  · rw [en, iq_of640] at x
    rw [en, e60] at y
    have tR := sf_TRt hT c
    rw [if_pos ⟨c, x, y⟩] at q1 q5 q0
    unfold sf_rn2 at q1 q5 q0
    refine ⟨by omega, fun d => ⟨c, by omega, fun e => ?_, fun e => sp98 ⟨_, rfl, ?_⟩⟩, fun d => sp98 ⟨_, rfl, ?_⟩⟩
    · rw [if_neg d, if_pos e] at q1 q5
      exact sp317_o hs c ⟨x, y⟩ (q1 rfl) (q5 rfl) n.toNat 0 (by omega) (fun k u w => by omega)
    · rw [if_neg d, if_neg (by omega)] at q0
      exact q0 (by omega)
    · rw [if_pos d] at q0
      exact q0 (by omega)
  · rw [en, iq_of640, e60] at x
    rw [if_neg (fun z => x z.2)] at q0
    exact q0 (by omega)
  · rw [if_neg (fun z => c z.1)] at q0
    exact q0 (by omega)
