/-! steps. -/
def sf_bsd (m a b : Int) : Bool := decide (m = 1 ∨ a - b = 1 ∨ b - a = 1 ∨ a - b = m - 1 ∨ b - a = m - 1)
/-- two tones are beside each other in the scale -/
def sf_bs2 (P : Int → Int) (x y : Int) : Bool := iq_f P x && (iq_f P y && sf_bsd (iq_m P) (iq_cn (iq_f P) x.toNat) (iq_cn (iq_f P) y.toNat))
def sf_sb (P : Int → Int) (V : Int → Int64) (k : Int) : Bool := sf_bs2 P (iq_l2i (V (k - 1))) (iq_l2i (V k))
def sf_okv (V : Int → Int64) (p n : Int) : Prop := ∀ k, 0 ≤ k → k < n → 0 ≤ (V k).toInt ∧ (V k).toInt < p
def aSteps (P : Int → Int) (V : Int → Int64) (n : Int) : Int := iq_cn (fun i => sf_sb P V (i + 1)) (n - 1).toNat
theorem sf_l2i {x : Int64} (h : 0 ≤ x.toInt ∧ x.toInt < 60) : iq_l2i x = x.toInt := by
  unfold iq_l2i
  rw [Int64.toInt_toInt32]
  exact Int.bmod_eq_of_le (by omega) (by omega)
theorem sf_dgR {P : Int → Int} (hp : iq_pb P) {t : Int} (h : iq_f P t = true) : 0 ≤ iq_cn (iq_f P) t.toNat ∧ iq_cn (iq_f P) t.toNat < iq_m P := by
  have r := iq_fR hp h
  have h0 := iq_cn_nonneg (iq_f P) t.toNat
  have h1 := iq_cn_lt (f := iq_f P) (a := t.toNat) (b := (P 1).toNat) (by omega) (by rw [Int.toNat_of_nonneg r.1]; exact h)
  exact ⟨h0.1, h1⟩
theorem sp314 {N : Nat} {xs : Nat → Int32} {Q : iq_T} {g : iq_I} {l : iq_J} {x y : Int} (hs : iq_SR g l 23 24 25 0) (hx : 0 ≤ x ∧ x < 60) (hy : 0 ≤ y ∧ y < 60) (q1 : sf_bs2 (g 24) x y = true → Q (some (iq_i 1)) g l) (q0 : sf_bs2 (g 24) x y = false → Q (some (iq_i 0)) g l) : iq_P N xs 314 0 [some (iq_r 0), some (iq_i x), some (iq_i y), none, none] [] g l Q := by
  have hm := iq_mR hs.1
  have hp3 := hs.1.2.2.2.1
  have em : iq_cn (iq_tb (l 23 4)) 64 = iq_m (g 24) := by
    rw [iq_cn_congr (h := iq_f (g 24)) (fun u _ _ => hs.2.2.1 u), iq_fm64 hs.1]
  unfold sf_bs2 at q1 q0
  refine B314_0 _ _ _ _ (sp155_23 (by omega) (fun c => ⟨_, rfl, by omega, fun h => by omega, fun _ => sp155_23 (by omega) (fun d => ⟨_, rfl, by omega, fun _ => sp89_23 ⟨_, rfl, ?_⟩, fun h => by omega⟩) (fun d => ⟨_, rfl, by omega, fun h => by omega, fun _ => ?_⟩)⟩) (fun c => ⟨_, rfl, by omega, fun _ => ?_, fun h => by omega⟩))
  · rw [hs.2.2.1] at c d
    have r1 := sf_dgR hs.1 c
    have r2 := sf_dgR hs.1 d
    rw [c, d, Bool.true_and, Bool.true_and] at q1 q0
    unfold sf_bsd at q1 q0
    rw [decide_eq_true_eq] at q1
    rw [decide_eq_false_iff_not] at q0
    rw [em]
    refine sp156 hs hx ⟨_, rfl, sp156 hs hy ⟨_, rfl, sp239 (by omega) ⟨_, rfl, by omega, fun e => B314_p67_0 _ _ _ _ _ _ (q1 (by omega)), fun e => ⟨by omega, fun f => B314_p67_0 _ _ _ _ _ _ (q1 (by omega)), fun f => ⟨by omega, fun z => B314_p71_0 _ _ _ _ _ _ (q0 (by omega)), fun z => B314_p67_0 _ _ _ _ _ _ (q1 (by omega))⟩⟩⟩⟩⟩
  · rw [hs.2.2.1] at d
    rw [d, Bool.false_and, Bool.and_false] at q0
    exact q0 rfl
  · rw [hs.2.2.1] at c
    rw [c, Bool.false_and] at q0
    exact q0 rfl
/-- why steps is refused at first: 0 if it isn't -/
def sf_ws (g : iq_I) (t n : Int) : Int := if (0 ≤ t ∧ t < 4) ∧ 0 ≤ n ∧ n ≤ 60 then sf_rn2 (g 80 t) n else 1
theorem sp315_c2 {N : Nat} {xs : Nat → Int32} {Q : iq_T} {g : iq_I} {l : iq_J} {t n z : Int} {V : Int → Int64} (hs : iq_SR g l 23 24 25 0) (hn : -1 ≤ g 2 2 ∧ g 2 2 ≤ 60) (hk : 0 ≤ n ∧ n ≤ g 2 2) (hV : ∀ k, 0 ≤ k → k < n → l 3 k = V k) (ok : sf_okv V (g 24 1) n) (q : Q (some (iq_i (aSteps (g 24) V n))) (iq_uz g 0 0 0) l) (m : Nat) : ∀ v : Nat, (v + 1 : Int) + m = n ∨ ((v + 1 : Int) ≥ n ∧ m = 0 ∧ v = (n - 1).toNat) → iq_P N xs 315 99 [some (iq_r 0), some (iq_i t), some (iq_i n), some (iq_r 2), some (iq_i z), some (iq_i (iq_cn (fun i => sf_sb (g 24) V (i + 1)) v)), some (iq_i ((v : Int) + 1))] [] g l Q := by
  have hp1 := hs.1.2.1
  induction m with
  | zero =>
    intro v h
    have ev : (n - 1).toNat = v := by omega
    unfold aSteps at q
    rw [ev] at q
    exact B315_p99_2 _ _ _ _ _ _ _ ⟨by omega, fun _ => sp90 ⟨_, rfl, q⟩, fun h => by omega⟩
  | succ m ih =>
    intro v h
    have h : (v + 1 : Int) + (m + 1 : Nat) = n := by omega
    have nx := ih (v + 1) (by omega)
    rw [iq_cn] at nx
    have o1 := ok v (by omega) (by omega)
    have o2 := ok ((v : Int) + 1) (by omega) (by omega)
    refine B315_p99_2 _ _ _ _ _ _ _ ⟨by omega, fun h => by omega, fun _ => sp45_2 hn (by omega) ⟨_, rfl, sp45_2 hn (by omega) ⟨_, rfl, ?_⟩⟩⟩
    rw [show (v : Int) + 1 - 1 = v by omega, hV v (by omega) (by omega), hV _ (by omega) (by omega)]
    have e1 := sf_l2i (x := V v) (by omega)
    have e2 := sf_l2i (x := V ((v : Int) + 1)) (by omega)
    have eb : sf_sb (g 24) V ((v : Int) + 1) = sf_bs2 (g 24) (iq_l2i (V v)) (iq_l2i (V ((v : Int) + 1))) := by
      unfold sf_sb
      rw [show (v : Int) + 1 - 1 = v by omega]
    refine sp314 hs (by omega) (by omega) (fun c => ⟨_, rfl, by omega, fun h => by omega, fun _ => ?_⟩) (fun c => ⟨_, rfl, by omega, fun _ => ?_, fun h => by omega⟩)
    · rw [eb, c] at nx; exact nx
    · rw [eb, c] at nx; exact nx
theorem sp315_o2 {N : Nat} {xs : Nat → Int32} {Q : iq_T} {g : iq_I} {l : iq_J} {t n z : Int} {V : Int → Int64} (hs : iq_SR g l 23 24 25 0) (hn : -1 ≤ g 2 2 ∧ g 2 2 ≤ 60) (hk : 0 ≤ n ∧ n ≤ g 2 2) (hV : ∀ k, 0 ≤ k → k < n → l 3 k = V k) (q1 : sf_okv V (g 24 1) n → Q (some (iq_i (aSteps (g 24) V n))) (iq_uz g 0 0 0) l) (q5 : ¬ sf_okv V (g 24 1) n → Q (some (iq_i (-1))) (iq_uz g 0 0 5) l) (m : Nat) : ∀ v : Nat, (v : Int) + m = n → sf_okv V (g 24 1) v → iq_P N xs 315 46 [some (iq_r 0), some (iq_i t), some (iq_i n), some (iq_r 2), some (iq_i z), some (iq_i v), none] [] g l Q := by
  have hp1 := hs.1.2.1
  have ep : (iq_i2l (g 24 1)).toInt = g 24 1 := iq_i2lv (by omega) (by omega)
  induction m with
  | zero =>
    intro v h ok
    have ev : (v : Int) = n := by omega
    rw [ev] at ok ⊢
    refine B315_p46_2 _ _ _ _ _ _ ⟨by omega, fun _ => ?_, fun h => by omega⟩
    exact sp315_c2 hs hn hk hV ok (q1 ok) (n - 1).toNat 0 (by omega)
  | succ m ih =>
    intro v h ok
    have hv : l 3 v = V v := hV v (by omega) (by omega)
    refine B315_p46_2 _ _ _ _ _ _ ⟨by omega, fun h => by omega, fun _ => sp45_2 hn (by omega) ⟨_, rfl, iq_lcR _ _, fun c => ?_, fun c => sp45_2 hn (by omega) ⟨_, rfl, B80_23 _ _ ⟨_, rfl, iq_lcR _ _, fun d => ?_, fun d => ?_⟩⟩⟩⟩
    · rw [iq_lclt, hv, iq_of640] at c
      exact sp44 ⟨_, rfl, q5 (fun o => by have := o v (by omega) (by omega); omega)⟩
    · rw [iq_lcge, hv, iq_of640] at c
      rw [iq_lclt, hv, ep] at d
      refine ih (v + 1) (by omega) (fun k x y => ?_)
      by_cases e : k = v
      · rw [e]; exact ⟨c, d⟩
      · exact ok k x (by omega)
    · rw [iq_lcge, hv, ep] at d
      exact sp44 ⟨_, rfl, q5 (fun o => by have := o v (by omega) (by omega); omega)⟩
theorem sp315_2 {N : Nat} {xs : Nat → Int32} {Q : iq_T} {g : iq_I} {l : iq_J} {t n : Int} (hs : iq_SR g l 23 24 25 0) (hT : iq_TR g l) (hn : -2147483648 ≤ n ∧ n ≤ 2147483647) (q1 : (0 ≤ n ∧ n ≤ 60) ∧ sf_rn2 (g 80 0) n = 0 → sf_okv (fun k => l 81 (60 * 0 + k)) (g 24 1) n → Q (some (iq_i (aSteps (g 24) (fun k => l 81 (60 * 0 + k)) n))) (iq_uz g 0 0 0) l) (q5 : (0 ≤ n ∧ n ≤ 60) ∧ sf_rn2 (g 80 0) n = 0 → ¬ sf_okv (fun k => l 81 (60 * 0 + k)) (g 24 1) n → Q (some (iq_i (-1))) (iq_uz g 0 0 5) l) (q0 : ¬ ((0 ≤ n ∧ n ≤ 60) ∧ sf_rn2 (g 80 0) n = 0) → Q (some (iq_i (-1))) (iq_uz g 0 0 (if 0 ≤ n ∧ n ≤ 60 then sf_rn2 (g 80 0) n else 1)) l) : iq_P N xs 315 5 [some (iq_r 0), some (iq_i t), some (iq_i n), none, none, none, none] [iq_r 2] g l Q := by
  obtain ⟨a1, a2, a3, a4⟩ := sf_T0 hT
  have hR := sf_rn2R (g 80 0) n
  refine B315_q5_2 _ _ _ _ ⟨by omega, fun c => ?_, fun c1 => ⟨by omega, fun c2 => sp311_2 (by omega) (by omega) ⟨_, rfl, ?_⟩, fun c => ?_⟩⟩
  · rw [if_neg (by omega)] at q0
    exact sp44 ⟨_, rfl, q0 (by omega)⟩
  · rw [a2]
    refine ⟨by omega, fun z => ?_, fun z => sp44 ⟨_, rfl, ?_⟩⟩
    · have w := sf_rn20 z
      exact sp315_o2 hs (by omega) (by omega) (fun k x y => (hT 0 (by omega)).2.2.2.2 k x (show k < g 80 0 by omega)) (q1 ⟨⟨c1, c2⟩, z⟩) (q5 ⟨⟨c1, c2⟩, z⟩) n.toNat 0 (by omega) (fun k x y => by omega)
    · rw [if_pos ⟨c1, c2⟩] at q0
      exact q0 (fun y => z y.2)
  · rw [if_neg (by omega)] at q0
    exact sp44 ⟨_, rfl, q0 (by omega)⟩
theorem sp315_c4 {N : Nat} {xs : Nat → Int32} {Q : iq_T} {g : iq_I} {l : iq_J} {t n z : Int} {V : Int → Int64} (hs : iq_SR g l 23 24 25 0) (hn : -1 ≤ g 4 2 ∧ g 4 2 ≤ 60) (hk : 0 ≤ n ∧ n ≤ g 4 2) (hV : ∀ k, 0 ≤ k → k < n → l 5 k = V k) (ok : sf_okv V (g 24 1) n) (q : Q (some (iq_i (aSteps (g 24) V n))) (iq_uz g 0 0 0) l) (m : Nat) : ∀ v : Nat, (v + 1 : Int) + m = n ∨ ((v + 1 : Int) ≥ n ∧ m = 0 ∧ v = (n - 1).toNat) → iq_P N xs 315 99 [some (iq_r 0), some (iq_i t), some (iq_i n), some (iq_r 4), some (iq_i z), some (iq_i (iq_cn (fun i => sf_sb (g 24) V (i + 1)) v)), some (iq_i ((v : Int) + 1))] [] g l Q := by
  have hp1 := hs.1.2.1
  induction m with
  | zero =>
    intro v h
    have ev : (n - 1).toNat = v := by omega
    unfold aSteps at q
    rw [ev] at q
    exact B315_p99_4 _ _ _ _ _ _ _ ⟨by omega, fun _ => sp90 ⟨_, rfl, q⟩, fun h => by omega⟩
  | succ m ih =>
    intro v h
    have h : (v + 1 : Int) + (m + 1 : Nat) = n := by omega
    have nx := ih (v + 1) (by omega)
    rw [iq_cn] at nx
    have o1 := ok v (by omega) (by omega)
    have o2 := ok ((v : Int) + 1) (by omega) (by omega)
    refine B315_p99_4 _ _ _ _ _ _ _ ⟨by omega, fun h => by omega, fun _ => sp45_4 hn (by omega) ⟨_, rfl, sp45_4 hn (by omega) ⟨_, rfl, ?_⟩⟩⟩
    rw [show (v : Int) + 1 - 1 = v by omega, hV v (by omega) (by omega), hV _ (by omega) (by omega)]
    have e1 := sf_l2i (x := V v) (by omega)
    have e2 := sf_l2i (x := V ((v : Int) + 1)) (by omega)
    have eb : sf_sb (g 24) V ((v : Int) + 1) = sf_bs2 (g 24) (iq_l2i (V v)) (iq_l2i (V ((v : Int) + 1))) := by
      unfold sf_sb
      rw [show (v : Int) + 1 - 1 = v by omega]
    refine sp314 hs (by omega) (by omega) (fun c => ⟨_, rfl, by omega, fun h => by omega, fun _ => ?_⟩) (fun c => ⟨_, rfl, by omega, fun _ => ?_, fun h => by omega⟩)
    · rw [eb, c] at nx; exact nx
    · rw [eb, c] at nx; exact nx
theorem sp315_o4 {N : Nat} {xs : Nat → Int32} {Q : iq_T} {g : iq_I} {l : iq_J} {t n z : Int} {V : Int → Int64} (hs : iq_SR g l 23 24 25 0) (hn : -1 ≤ g 4 2 ∧ g 4 2 ≤ 60) (hk : 0 ≤ n ∧ n ≤ g 4 2) (hV : ∀ k, 0 ≤ k → k < n → l 5 k = V k) (q1 : sf_okv V (g 24 1) n → Q (some (iq_i (aSteps (g 24) V n))) (iq_uz g 0 0 0) l) (q5 : ¬ sf_okv V (g 24 1) n → Q (some (iq_i (-1))) (iq_uz g 0 0 5) l) (m : Nat) : ∀ v : Nat, (v : Int) + m = n → sf_okv V (g 24 1) v → iq_P N xs 315 46 [some (iq_r 0), some (iq_i t), some (iq_i n), some (iq_r 4), some (iq_i z), some (iq_i v), none] [] g l Q := by
  have hp1 := hs.1.2.1
  have ep : (iq_i2l (g 24 1)).toInt = g 24 1 := iq_i2lv (by omega) (by omega)
  induction m with
  | zero =>
    intro v h ok
    have ev : (v : Int) = n := by omega
    rw [ev] at ok ⊢
    refine B315_p46_4 _ _ _ _ _ _ ⟨by omega, fun _ => ?_, fun h => by omega⟩
    exact sp315_c4 hs hn hk hV ok (q1 ok) (n - 1).toNat 0 (by omega)
  | succ m ih =>
    intro v h ok
    have hv : l 5 v = V v := hV v (by omega) (by omega)
    refine B315_p46_4 _ _ _ _ _ _ ⟨by omega, fun h => by omega, fun _ => sp45_4 hn (by omega) ⟨_, rfl, iq_lcR _ _, fun c => ?_, fun c => sp45_4 hn (by omega) ⟨_, rfl, B80_23 _ _ ⟨_, rfl, iq_lcR _ _, fun d => ?_, fun d => ?_⟩⟩⟩⟩
    · rw [iq_lclt, hv, iq_of640] at c
      exact sp44 ⟨_, rfl, q5 (fun o => by have := o v (by omega) (by omega); omega)⟩
    · rw [iq_lcge, hv, iq_of640] at c
      rw [iq_lclt, hv, ep] at d
      refine ih (v + 1) (by omega) (fun k x y => ?_)
      by_cases e : k = v
      · rw [e]; exact ⟨c, d⟩
      · exact ok k x (by omega)
    · rw [iq_lcge, hv, ep] at d
      exact sp44 ⟨_, rfl, q5 (fun o => by have := o v (by omega) (by omega); omega)⟩
theorem sp315_4 {N : Nat} {xs : Nat → Int32} {Q : iq_T} {g : iq_I} {l : iq_J} {t n : Int} (hs : iq_SR g l 23 24 25 0) (hT : iq_TR g l) (hn : -2147483648 ≤ n ∧ n ≤ 2147483647) (q1 : (0 ≤ n ∧ n ≤ 60) ∧ sf_rn2 (g 80 1) n = 0 → sf_okv (fun k => l 81 (60 * 1 + k)) (g 24 1) n → Q (some (iq_i (aSteps (g 24) (fun k => l 81 (60 * 1 + k)) n))) (iq_uz g 0 0 0) l) (q5 : (0 ≤ n ∧ n ≤ 60) ∧ sf_rn2 (g 80 1) n = 0 → ¬ sf_okv (fun k => l 81 (60 * 1 + k)) (g 24 1) n → Q (some (iq_i (-1))) (iq_uz g 0 0 5) l) (q0 : ¬ ((0 ≤ n ∧ n ≤ 60) ∧ sf_rn2 (g 80 1) n = 0) → Q (some (iq_i (-1))) (iq_uz g 0 0 (if 0 ≤ n ∧ n ≤ 60 then sf_rn2 (g 80 1) n else 1)) l) : iq_P N xs 315 5 [some (iq_r 0), some (iq_i t), some (iq_i n), none, none, none, none] [iq_r 4] g l Q := by
  obtain ⟨a1, a2, a3, a4⟩ := sf_T1 hT
  have hR := sf_rn2R (g 80 1) n
  refine B315_q5_4 _ _ _ _ ⟨by omega, fun c => ?_, fun c1 => ⟨by omega, fun c2 => sp311_4 (by omega) (by omega) ⟨_, rfl, ?_⟩, fun c => ?_⟩⟩
  · rw [if_neg (by omega)] at q0
    exact sp44 ⟨_, rfl, q0 (by omega)⟩
  · rw [a2]
    refine ⟨by omega, fun z => ?_, fun z => sp44 ⟨_, rfl, ?_⟩⟩
    · have w := sf_rn20 z
      exact sp315_o4 hs (by omega) (by omega) (fun k x y => (hT 1 (by omega)).2.2.2.2 k x (show k < g 80 1 by omega)) (q1 ⟨⟨c1, c2⟩, z⟩) (q5 ⟨⟨c1, c2⟩, z⟩) n.toNat 0 (by omega) (fun k x y => by omega)
    · rw [if_pos ⟨c1, c2⟩] at q0
      exact q0 (fun y => z y.2)
  · rw [if_neg (by omega)] at q0
    exact sp44 ⟨_, rfl, q0 (by omega)⟩
theorem sp315_c6 {N : Nat} {xs : Nat → Int32} {Q : iq_T} {g : iq_I} {l : iq_J} {t n z : Int} {V : Int → Int64} (hs : iq_SR g l 23 24 25 0) (hn : -1 ≤ g 6 2 ∧ g 6 2 ≤ 60) (hk : 0 ≤ n ∧ n ≤ g 6 2) (hV : ∀ k, 0 ≤ k → k < n → l 7 k = V k) (ok : sf_okv V (g 24 1) n) (q : Q (some (iq_i (aSteps (g 24) V n))) (iq_uz g 0 0 0) l) (m : Nat) : ∀ v : Nat, (v + 1 : Int) + m = n ∨ ((v + 1 : Int) ≥ n ∧ m = 0 ∧ v = (n - 1).toNat) → iq_P N xs 315 99 [some (iq_r 0), some (iq_i t), some (iq_i n), some (iq_r 6), some (iq_i z), some (iq_i (iq_cn (fun i => sf_sb (g 24) V (i + 1)) v)), some (iq_i ((v : Int) + 1))] [] g l Q := by
  have hp1 := hs.1.2.1
  induction m with
  | zero =>
    intro v h
    have ev : (n - 1).toNat = v := by omega
    unfold aSteps at q
    rw [ev] at q
    exact B315_p99_6 _ _ _ _ _ _ _ ⟨by omega, fun _ => sp90 ⟨_, rfl, q⟩, fun h => by omega⟩
  | succ m ih =>
    intro v h
    have h : (v + 1 : Int) + (m + 1 : Nat) = n := by omega
    have nx := ih (v + 1) (by omega)
    rw [iq_cn] at nx
    have o1 := ok v (by omega) (by omega)
    have o2 := ok ((v : Int) + 1) (by omega) (by omega)
    refine B315_p99_6 _ _ _ _ _ _ _ ⟨by omega, fun h => by omega, fun _ => sp45_6 hn (by omega) ⟨_, rfl, sp45_6 hn (by omega) ⟨_, rfl, ?_⟩⟩⟩
    rw [show (v : Int) + 1 - 1 = v by omega, hV v (by omega) (by omega), hV _ (by omega) (by omega)]
    have e1 := sf_l2i (x := V v) (by omega)
    have e2 := sf_l2i (x := V ((v : Int) + 1)) (by omega)
    have eb : sf_sb (g 24) V ((v : Int) + 1) = sf_bs2 (g 24) (iq_l2i (V v)) (iq_l2i (V ((v : Int) + 1))) := by
      unfold sf_sb
      rw [show (v : Int) + 1 - 1 = v by omega]
    refine sp314 hs (by omega) (by omega) (fun c => ⟨_, rfl, by omega, fun h => by omega, fun _ => ?_⟩) (fun c => ⟨_, rfl, by omega, fun _ => ?_, fun h => by omega⟩)
    · rw [eb, c] at nx; exact nx
    · rw [eb, c] at nx; exact nx
theorem sp315_o6 {N : Nat} {xs : Nat → Int32} {Q : iq_T} {g : iq_I} {l : iq_J} {t n z : Int} {V : Int → Int64} (hs : iq_SR g l 23 24 25 0) (hn : -1 ≤ g 6 2 ∧ g 6 2 ≤ 60) (hk : 0 ≤ n ∧ n ≤ g 6 2) (hV : ∀ k, 0 ≤ k → k < n → l 7 k = V k) (q1 : sf_okv V (g 24 1) n → Q (some (iq_i (aSteps (g 24) V n))) (iq_uz g 0 0 0) l) (q5 : ¬ sf_okv V (g 24 1) n → Q (some (iq_i (-1))) (iq_uz g 0 0 5) l) (m : Nat) : ∀ v : Nat, (v : Int) + m = n → sf_okv V (g 24 1) v → iq_P N xs 315 46 [some (iq_r 0), some (iq_i t), some (iq_i n), some (iq_r 6), some (iq_i z), some (iq_i v), none] [] g l Q := by
  have hp1 := hs.1.2.1
  have ep : (iq_i2l (g 24 1)).toInt = g 24 1 := iq_i2lv (by omega) (by omega)
  induction m with
  | zero =>
    intro v h ok
    have ev : (v : Int) = n := by omega
    rw [ev] at ok ⊢
    refine B315_p46_6 _ _ _ _ _ _ ⟨by omega, fun _ => ?_, fun h => by omega⟩
    exact sp315_c6 hs hn hk hV ok (q1 ok) (n - 1).toNat 0 (by omega)
  | succ m ih =>
    intro v h ok
    have hv : l 7 v = V v := hV v (by omega) (by omega)
    refine B315_p46_6 _ _ _ _ _ _ ⟨by omega, fun h => by omega, fun _ => sp45_6 hn (by omega) ⟨_, rfl, iq_lcR _ _, fun c => ?_, fun c => sp45_6 hn (by omega) ⟨_, rfl, B80_23 _ _ ⟨_, rfl, iq_lcR _ _, fun d => ?_, fun d => ?_⟩⟩⟩⟩
    · rw [iq_lclt, hv, iq_of640] at c
      exact sp44 ⟨_, rfl, q5 (fun o => by have := o v (by omega) (by omega); omega)⟩
    · rw [iq_lcge, hv, iq_of640] at c
      rw [iq_lclt, hv, ep] at d
      refine ih (v + 1) (by omega) (fun k x y => ?_)
      by_cases e : k = v
      · rw [e]; exact ⟨c, d⟩
      · exact ok k x (by omega)
    · rw [iq_lcge, hv, ep] at d
      exact sp44 ⟨_, rfl, q5 (fun o => by have := o v (by omega) (by omega); omega)⟩
theorem sp315_6 {N : Nat} {xs : Nat → Int32} {Q : iq_T} {g : iq_I} {l : iq_J} {t n : Int} (hs : iq_SR g l 23 24 25 0) (hT : iq_TR g l) (hn : -2147483648 ≤ n ∧ n ≤ 2147483647) (q1 : (0 ≤ n ∧ n ≤ 60) ∧ sf_rn2 (g 80 2) n = 0 → sf_okv (fun k => l 81 (60 * 2 + k)) (g 24 1) n → Q (some (iq_i (aSteps (g 24) (fun k => l 81 (60 * 2 + k)) n))) (iq_uz g 0 0 0) l) (q5 : (0 ≤ n ∧ n ≤ 60) ∧ sf_rn2 (g 80 2) n = 0 → ¬ sf_okv (fun k => l 81 (60 * 2 + k)) (g 24 1) n → Q (some (iq_i (-1))) (iq_uz g 0 0 5) l) (q0 : ¬ ((0 ≤ n ∧ n ≤ 60) ∧ sf_rn2 (g 80 2) n = 0) → Q (some (iq_i (-1))) (iq_uz g 0 0 (if 0 ≤ n ∧ n ≤ 60 then sf_rn2 (g 80 2) n else 1)) l) : iq_P N xs 315 5 [some (iq_r 0), some (iq_i t), some (iq_i n), none, none, none, none] [iq_r 6] g l Q := by
  obtain ⟨a1, a2, a3, a4⟩ := sf_T2 hT
  have hR := sf_rn2R (g 80 2) n
  refine B315_q5_6 _ _ _ _ ⟨by omega, fun c => ?_, fun c1 => ⟨by omega, fun c2 => sp311_6 (by omega) (by omega) ⟨_, rfl, ?_⟩, fun c => ?_⟩⟩
  · rw [if_neg (by omega)] at q0
    exact sp44 ⟨_, rfl, q0 (by omega)⟩
  · rw [a2]
    refine ⟨by omega, fun z => ?_, fun z => sp44 ⟨_, rfl, ?_⟩⟩
    · have w := sf_rn20 z
      exact sp315_o6 hs (by omega) (by omega) (fun k x y => (hT 2 (by omega)).2.2.2.2 k x (show k < g 80 2 by omega)) (q1 ⟨⟨c1, c2⟩, z⟩) (q5 ⟨⟨c1, c2⟩, z⟩) n.toNat 0 (by omega) (fun k x y => by omega)
    · rw [if_pos ⟨c1, c2⟩] at q0
      exact q0 (fun y => z y.2)
  · rw [if_neg (by omega)] at q0
    exact sp44 ⟨_, rfl, q0 (by omega)⟩
theorem sp315_c8 {N : Nat} {xs : Nat → Int32} {Q : iq_T} {g : iq_I} {l : iq_J} {t n z : Int} {V : Int → Int64} (hs : iq_SR g l 23 24 25 0) (hn : -1 ≤ g 8 2 ∧ g 8 2 ≤ 60) (hk : 0 ≤ n ∧ n ≤ g 8 2) (hV : ∀ k, 0 ≤ k → k < n → l 9 k = V k) (ok : sf_okv V (g 24 1) n) (q : Q (some (iq_i (aSteps (g 24) V n))) (iq_uz g 0 0 0) l) (m : Nat) : ∀ v : Nat, (v + 1 : Int) + m = n ∨ ((v + 1 : Int) ≥ n ∧ m = 0 ∧ v = (n - 1).toNat) → iq_P N xs 315 99 [some (iq_r 0), some (iq_i t), some (iq_i n), some (iq_r 8), some (iq_i z), some (iq_i (iq_cn (fun i => sf_sb (g 24) V (i + 1)) v)), some (iq_i ((v : Int) + 1))] [] g l Q := by
  have hp1 := hs.1.2.1
  induction m with
  | zero =>
    intro v h
    have ev : (n - 1).toNat = v := by omega
    unfold aSteps at q
    rw [ev] at q
    exact B315_p99_8 _ _ _ _ _ _ _ ⟨by omega, fun _ => sp90 ⟨_, rfl, q⟩, fun h => by omega⟩
  | succ m ih =>
    intro v h
    have h : (v + 1 : Int) + (m + 1 : Nat) = n := by omega
    have nx := ih (v + 1) (by omega)
    rw [iq_cn] at nx
    have o1 := ok v (by omega) (by omega)
    have o2 := ok ((v : Int) + 1) (by omega) (by omega)
    refine B315_p99_8 _ _ _ _ _ _ _ ⟨by omega, fun h => by omega, fun _ => sp45_8 hn (by omega) ⟨_, rfl, sp45_8 hn (by omega) ⟨_, rfl, ?_⟩⟩⟩
    rw [show (v : Int) + 1 - 1 = v by omega, hV v (by omega) (by omega), hV _ (by omega) (by omega)]
    have e1 := sf_l2i (x := V v) (by omega)
    have e2 := sf_l2i (x := V ((v : Int) + 1)) (by omega)
    have eb : sf_sb (g 24) V ((v : Int) + 1) = sf_bs2 (g 24) (iq_l2i (V v)) (iq_l2i (V ((v : Int) + 1))) := by
      unfold sf_sb
      rw [show (v : Int) + 1 - 1 = v by omega]
    refine sp314 hs (by omega) (by omega) (fun c => ⟨_, rfl, by omega, fun h => by omega, fun _ => ?_⟩) (fun c => ⟨_, rfl, by omega, fun _ => ?_, fun h => by omega⟩)
    · rw [eb, c] at nx; exact nx
    · rw [eb, c] at nx; exact nx
theorem sp315_o8 {N : Nat} {xs : Nat → Int32} {Q : iq_T} {g : iq_I} {l : iq_J} {t n z : Int} {V : Int → Int64} (hs : iq_SR g l 23 24 25 0) (hn : -1 ≤ g 8 2 ∧ g 8 2 ≤ 60) (hk : 0 ≤ n ∧ n ≤ g 8 2) (hV : ∀ k, 0 ≤ k → k < n → l 9 k = V k) (q1 : sf_okv V (g 24 1) n → Q (some (iq_i (aSteps (g 24) V n))) (iq_uz g 0 0 0) l) (q5 : ¬ sf_okv V (g 24 1) n → Q (some (iq_i (-1))) (iq_uz g 0 0 5) l) (m : Nat) : ∀ v : Nat, (v : Int) + m = n → sf_okv V (g 24 1) v → iq_P N xs 315 46 [some (iq_r 0), some (iq_i t), some (iq_i n), some (iq_r 8), some (iq_i z), some (iq_i v), none] [] g l Q := by
  have hp1 := hs.1.2.1
  have ep : (iq_i2l (g 24 1)).toInt = g 24 1 := iq_i2lv (by omega) (by omega)
  induction m with
  | zero =>
    intro v h ok
    have ev : (v : Int) = n := by omega
    rw [ev] at ok ⊢
    refine B315_p46_8 _ _ _ _ _ _ ⟨by omega, fun _ => ?_, fun h => by omega⟩
    exact sp315_c8 hs hn hk hV ok (q1 ok) (n - 1).toNat 0 (by omega)
  | succ m ih =>
    intro v h ok
    have hv : l 9 v = V v := hV v (by omega) (by omega)
    refine B315_p46_8 _ _ _ _ _ _ ⟨by omega, fun h => by omega, fun _ => sp45_8 hn (by omega) ⟨_, rfl, iq_lcR _ _, fun c => ?_, fun c => sp45_8 hn (by omega) ⟨_, rfl, B80_23 _ _ ⟨_, rfl, iq_lcR _ _, fun d => ?_, fun d => ?_⟩⟩⟩⟩
    · rw [iq_lclt, hv, iq_of640] at c
      exact sp44 ⟨_, rfl, q5 (fun o => by have := o v (by omega) (by omega); omega)⟩
    · rw [iq_lcge, hv, iq_of640] at c
      rw [iq_lclt, hv, ep] at d
      refine ih (v + 1) (by omega) (fun k x y => ?_)
      by_cases e : k = v
      · rw [e]; exact ⟨c, d⟩
      · exact ok k x (by omega)
    · rw [iq_lcge, hv, ep] at d
      exact sp44 ⟨_, rfl, q5 (fun o => by have := o v (by omega) (by omega); omega)⟩
theorem sp315_8 {N : Nat} {xs : Nat → Int32} {Q : iq_T} {g : iq_I} {l : iq_J} {t n : Int} (hs : iq_SR g l 23 24 25 0) (hT : iq_TR g l) (hn : -2147483648 ≤ n ∧ n ≤ 2147483647) (q1 : (0 ≤ n ∧ n ≤ 60) ∧ sf_rn2 (g 80 3) n = 0 → sf_okv (fun k => l 81 (60 * 3 + k)) (g 24 1) n → Q (some (iq_i (aSteps (g 24) (fun k => l 81 (60 * 3 + k)) n))) (iq_uz g 0 0 0) l) (q5 : (0 ≤ n ∧ n ≤ 60) ∧ sf_rn2 (g 80 3) n = 0 → ¬ sf_okv (fun k => l 81 (60 * 3 + k)) (g 24 1) n → Q (some (iq_i (-1))) (iq_uz g 0 0 5) l) (q0 : ¬ ((0 ≤ n ∧ n ≤ 60) ∧ sf_rn2 (g 80 3) n = 0) → Q (some (iq_i (-1))) (iq_uz g 0 0 (if 0 ≤ n ∧ n ≤ 60 then sf_rn2 (g 80 3) n else 1)) l) : iq_P N xs 315 5 [some (iq_r 0), some (iq_i t), some (iq_i n), none, none, none, none] [iq_r 8] g l Q := by
  obtain ⟨a1, a2, a3, a4⟩ := sf_T3 hT
  have hR := sf_rn2R (g 80 3) n
  refine B315_q5_8 _ _ _ _ ⟨by omega, fun c => ?_, fun c1 => ⟨by omega, fun c2 => sp311_8 (by omega) (by omega) ⟨_, rfl, ?_⟩, fun c => ?_⟩⟩
  · rw [if_neg (by omega)] at q0
    exact sp44 ⟨_, rfl, q0 (by omega)⟩
  · rw [a2]
    refine ⟨by omega, fun z => ?_, fun z => sp44 ⟨_, rfl, ?_⟩⟩
    · have w := sf_rn20 z
      exact sp315_o8 hs (by omega) (by omega) (fun k x y => (hT 3 (by omega)).2.2.2.2 k x (show k < g 80 3 by omega)) (q1 ⟨⟨c1, c2⟩, z⟩) (q5 ⟨⟨c1, c2⟩, z⟩) n.toNat 0 (by omega) (fun k x y => by omega)
    · rw [if_pos ⟨c1, c2⟩] at q0
      exact q0 (fun y => z y.2)
  · rw [if_neg (by omega)] at q0
    exact sp44 ⟨_, rfl, q0 (by omega)⟩
