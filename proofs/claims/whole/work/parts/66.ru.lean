/-! Settle; rule and flip. -/
def sf_fl (k : Int) : Bool := decide (k = 2) || decide (k = 5) || decide (k = 7) || decide (k = 8)
theorem sf_fli {k : Int} : sf_fl k = true ↔ (k = 2 ∨ k = 5 ∨ k = 7 ∨ k = 8) := by
  unfold sf_fl
  simp only [Bool.or_eq_true, decide_eq_true_eq]
  omega
theorem sf_flf {k : Int} (h : sf_fl k = false) : ¬ k = 2 ∧ ¬ k = 5 ∧ ¬ k = 7 ∧ ¬ k = 8 := by
  have : ¬ (k = 2 ∨ k = 5 ∨ k = 7 ∨ k = 8) := fun e => by rw [sf_fli.mpr e] at h; cases h
  omega
def sf_fold (P : Int → Int) : Int → Int := fun k => if sf_fl k = true then P k % P 1 else P k
def sf_rv (P : Int → Int) : Prop := (0 ≤ P 0 ∧ P 0 ≤ 16) ∧ (2 ≤ P 1 ∧ P 1 ≤ 60) ∧ (0 ≤ P 2 ∧ P 2 ≤ 60) ∧ (1 ≤ P 3 ∧ P 3 ≤ 24) ∧ (0 ≤ P 4 ∧ P 4 ≤ 23) ∧ (0 ≤ P 5 ∧ P 5 ≤ 60) ∧ (1 ≤ P 6 ∧ P 6 ≤ 7) ∧ (0 ≤ P 7 ∧ P 7 ≤ 60) ∧ (0 ≤ P 8 ∧ P 8 ≤ 60)
theorem sf_rvR {P : Int → Int} (h : sf_rv P) {k : Int} (a : 0 ≤ k) (b : k < 9) : 0 ≤ P k ∧ P k ≤ 60 := by
  obtain ⟨p0, p1, p2, p3, p4, p5, p6, p7, p8⟩ := h
  have : k = 0 ∨ k = 1 ∨ k = 2 ∨ k = 3 ∨ k = 4 ∨ k = 5 ∨ k = 6 ∨ k = 7 ∨ k = 8 := by omega
  rcases this with e | e | e | e | e | e | e | e | e <;> subst e <;> omega
theorem sf_foldb {P : Int → Int} (h : sf_rv P) : iq_pb (sf_fold P) := by
  obtain ⟨p0, p1, p2, p3, p4, p5, p6, p7, p8⟩ := h
  have md : ∀ x : Int, 0 ≤ x % P 1 ∧ x % P 1 < P 1 := fun x => ⟨Int.emod_nonneg _ (by omega), Int.emod_lt_of_pos _ (by omega)⟩
  exact ⟨p0, p1, md _, p3, p4, md _, p6, md _, md _⟩
theorem sf_pbrv {P : Int → Int} (h : iq_pb P) : sf_rv P := by
  obtain ⟨p0, p1, p2, p3, p4, p5, p6, p7, p8⟩ := h
  refine ⟨p0, p1, by omega, p3, p4, by omega, p6, by omega, by omega⟩
theorem sf_foldid {P : Int → Int} (h : iq_pb P) (k : Int) : sf_fold P k = P k := by
  obtain ⟨p0, p1, p2, p3, p4, p5, p6, p7, p8⟩ := h
  unfold sf_fold
  split
  · next c =>
    rcases sf_fli.mp c with e | e | e | e <;> subst e <;> exact Int.emod_eq_of_lt (by omega) (by omega)
  · rfl
theorem sp3 {N : Nat} {xs : Nat → Int32} {Q : iq_T} {g : iq_I} {l : iq_J} {k : Int} (hk : 0 ≤ k ∧ k < 9) (q1 : sf_fl k = true → Q (some (iq_i 1)) g l) (q0 : sf_fl k = false → Q (some (iq_i 0)) g l) : iq_P N xs 3 0 [some (iq_i k)] [] g l Q :=
  B3 _ _ _ ⟨by omega, fun c => q1 (sf_fli.mpr (by omega)), fun c1 => ⟨by omega, fun c => q1 (sf_fli.mpr (by omega)), fun c2 => ⟨by omega, fun c => q1 (sf_fli.mpr (by omega)), fun c3 => ⟨by omega, fun c => q0 (by unfold sf_fl; simp [c1, c2, c3, c]), fun c => q1 (sf_fli.mpr (by omega))⟩⟩⟩⟩
theorem sp109 {N : Nat} {xs : Nat → Int32} {Q : iq_T} {g : iq_I} {l : iq_J} {k : Int} (hk : 0 ≤ k ∧ k < 9) (q1 : sf_fl k = true → Q (some (iq_i 1)) g l) (q0 : sf_fl k = false → Q (some (iq_i 0)) g l) : iq_P N xs 109 0 [some (iq_i k)] [] g l Q :=
  B109 _ _ _ ⟨by omega, fun c => q1 (sf_fli.mpr (by omega)), fun c1 => ⟨by omega, fun c => q1 (sf_fli.mpr (by omega)), fun c2 => ⟨by omega, fun c => q1 (sf_fli.mpr (by omega)), fun c3 => ⟨by omega, fun c => q0 (by unfold sf_fl; simp [c1, c2, c3, c]), fun c => q1 (sf_fli.mpr (by omega))⟩⟩⟩⟩
theorem sp9_p23 {N : Nat} {xs : Nat → Int32} {Q : iq_T} {g : iq_I} {l : iq_J} (hr : sf_rv (g 24)) (q : ∀ (g' : iq_I) (y : Int64), (∀ j, ¬ j = 24 → g' j = g j) → (∀ k, 0 ≤ k → k < 9 → g' 24 k = sf_fold (g 24) k) → (∀ t, iq_tb y t = iq_f (sf_fold (g 24)) t) → Q none g' (iq_uz (iq_uz l 23 3 (l 23 3 &&& (iq_of (g 24 1) - 1))) 23 4 y)) (n : Nat) : ∀ (v : Nat) (g1 : iq_I), v + n = 9 → (∀ j, ¬ j = 24 → g1 j = g j) → (∀ k : Int, 0 ≤ k → k < v → g1 24 k = sf_fold (g 24) k) → (∀ k : Int, v ≤ k → g1 24 k = g 24 k) → iq_P N xs 9 2 [some (iq_r 23), some (iq_i v)] [] g1 l Q := by
  have hp := sf_foldb hr
  have e1 : ∀ (v : Nat) (g1 : iq_I), (∀ k : Int, 0 ≤ k → k < v → g1 24 k = sf_fold (g 24) k) → (∀ k : Int, v ≤ k → g1 24 k = g 24 k) → g1 24 1 = g 24 1 := by
    intro v g1 b c
    by_cases h : (1 : Int) < v
    · rw [b 1 (by omega) h]; rfl
    · exact c 1 (by omega)
  have hr' := hr
  obtain ⟨p0, p1, p2, p3, p4, p5, p6, p7, p8⟩ := hr
  induction n with
  | zero =>
    intro v g1 h a b c
    have b' : ∀ k, 0 ≤ k → k < 9 → g1 24 k = sf_fold (g 24) k := fun k x y => b k x (by omega)
    have e1' := e1 v g1 b c
    have hp' := iq_pb_congr b' hp
    have q2 := hp'.2.2.1
    have q3 := hp'.2.2.2.1
    have q5 := hp'.2.2.2.2.2.1
    refine B9_p2_23 _ _ _ ⟨by omega, fun _ => sp7 (by omega) ⟨_, rfl, sp8_23 hp' q2 (by omega) (by omega) (fun y hy => ⟨_, rfl, ?_⟩)⟩, fun h => by omega⟩
    rw [e1']
    refine q g1 y a b' (fun t => ?_)
    rw [← iq_f_congr b']
    refine iq_beq ?_
    rw [hy t]
    unfold iq_f
    rw [iq_dgi]
    constructor
    · rintro ⟨j, x, y, z⟩; exact ⟨j, x, by omega, z⟩
    · rintro ⟨j, x, y, z⟩; exact ⟨j, x, by omega, z⟩
  | succ n ih =>
    intro v g1 h a b c
    have e1' := e1 v g1 b c
    have ev : g1 24 v = g 24 v := c v (by omega)
    have vR := sf_rvR hr' (show (0 : Int) ≤ v by omega) (by omega)
    refine B9_p2_23 _ _ _ ⟨by omega, fun h => by omega, fun _ => sp3 (by omega) (fun f => ⟨_, rfl, by omega, fun h => by omega, fun _ => ⟨by omega, sp5_23 (by omega) (by omega) ⟨_, rfl, by omega, ih (v + 1) _ (by omega) (fun j hj => ?_) (fun k x y => ?_) (fun k x => ?_)⟩⟩⟩) (fun f => ⟨_, rfl, by omega, fun _ => ih (v + 1) g1 (by omega) a (fun k x y => ?_) (fun k x => c k (by omega)), fun h => by omega⟩)⟩
    · rw [← a j hj]; funext i; simp [iq_uz, hj]
    · by_cases e : k = v
      · rw [e]
        unfold sf_fold
        rw [if_pos f, ← ev, ← e1']
        simp [iq_uz]
      · rw [← b k x (by omega)]; simp [iq_uz, e]
    · have e : ¬ k = (v : Int) := by omega
      rw [← c k (by omega)]; simp [iq_uz, e]
    · by_cases e : k = v
      · rw [e, ev]
        unfold sf_fold
        rw [if_neg (by rw [f]; decide)]
      · exact b k x (by omega)
theorem sp9_23 {N : Nat} {xs : Nat → Int32} {Q : iq_T} {g : iq_I} {l : iq_J} (hr : sf_rv (g 24)) (q : ∀ (g' : iq_I) (y : Int64), (∀ j, ¬ j = 24 → g' j = g j) → (∀ k, 0 ≤ k → k < 9 → g' 24 k = sf_fold (g 24) k) → (∀ t, iq_tb y t = iq_f (sf_fold (g 24)) t) → Q none g' (iq_uz (iq_uz l 23 3 (l 23 3 &&& (iq_of (g 24 1) - 1))) 23 4 y)) : iq_P N xs 9 0 [some (iq_r 23), none] [] g l Q :=
  B9_23 _ _ (sp9_p23 (g := g) hr q 9 0 g (by omega) (fun _ _ => rfl) (fun k x y => by omega) (fun _ _ => rfl))
theorem sp9_p13 {N : Nat} {xs : Nat → Int32} {Q : iq_T} {g : iq_I} {l : iq_J} (hr : sf_rv (g 14)) (q : ∀ (g' : iq_I) (y : Int64), (∀ j, ¬ j = 14 → g' j = g j) → (∀ k, 0 ≤ k → k < 9 → g' 14 k = sf_fold (g 14) k) → (∀ t, iq_tb y t = iq_f (sf_fold (g 14)) t) → Q none g' (iq_uz (iq_uz l 13 3 (l 13 3 &&& (iq_of (g 14 1) - 1))) 13 4 y)) (n : Nat) : ∀ (v : Nat) (g1 : iq_I), v + n = 9 → (∀ j, ¬ j = 14 → g1 j = g j) → (∀ k : Int, 0 ≤ k → k < v → g1 14 k = sf_fold (g 14) k) → (∀ k : Int, v ≤ k → g1 14 k = g 14 k) → iq_P N xs 9 2 [some (iq_r 13), some (iq_i v)] [] g1 l Q := by
  have hp := sf_foldb hr
  have e1 : ∀ (v : Nat) (g1 : iq_I), (∀ k : Int, 0 ≤ k → k < v → g1 14 k = sf_fold (g 14) k) → (∀ k : Int, v ≤ k → g1 14 k = g 14 k) → g1 14 1 = g 14 1 := by
    intro v g1 b c
    by_cases h : (1 : Int) < v
    · rw [b 1 (by omega) h]; rfl
    · exact c 1 (by omega)
  have hr' := hr
  obtain ⟨p0, p1, p2, p3, p4, p5, p6, p7, p8⟩ := hr
  induction n with
  | zero =>
    intro v g1 h a b c
    have b' : ∀ k, 0 ≤ k → k < 9 → g1 14 k = sf_fold (g 14) k := fun k x y => b k x (by omega)
    have e1' := e1 v g1 b c
    have hp' := iq_pb_congr b' hp
    have q2 := hp'.2.2.1
    have q3 := hp'.2.2.2.1
    have q5 := hp'.2.2.2.2.2.1
    refine B9_p2_13 _ _ _ ⟨by omega, fun _ => sp7 (by omega) ⟨_, rfl, sp8_13 hp' q2 (by omega) (by omega) (fun y hy => ⟨_, rfl, ?_⟩)⟩, fun h => by omega⟩
    rw [e1']
    refine q g1 y a b' (fun t => ?_)
    rw [← iq_f_congr b']
    refine iq_beq ?_
    rw [hy t]
    unfold iq_f
    rw [iq_dgi]
    constructor
    · rintro ⟨j, x, y, z⟩; exact ⟨j, x, by omega, z⟩
    · rintro ⟨j, x, y, z⟩; exact ⟨j, x, by omega, z⟩
  | succ n ih =>
    intro v g1 h a b c
    have e1' := e1 v g1 b c
    have ev : g1 14 v = g 14 v := c v (by omega)
    have vR := sf_rvR hr' (show (0 : Int) ≤ v by omega) (by omega)
    refine B9_p2_13 _ _ _ ⟨by omega, fun h => by omega, fun _ => sp3 (by omega) (fun f => ⟨_, rfl, by omega, fun h => by omega, fun _ => ⟨by omega, sp5_13 (by omega) (by omega) ⟨_, rfl, by omega, ih (v + 1) _ (by omega) (fun j hj => ?_) (fun k x y => ?_) (fun k x => ?_)⟩⟩⟩) (fun f => ⟨_, rfl, by omega, fun _ => ih (v + 1) g1 (by omega) a (fun k x y => ?_) (fun k x => c k (by omega)), fun h => by omega⟩)⟩
    · rw [← a j hj]; funext i; simp [iq_uz, hj]
    · by_cases e : k = v
      · rw [e]
        unfold sf_fold
        rw [if_pos f, ← ev, ← e1']
        simp [iq_uz]
      · rw [← b k x (by omega)]; simp [iq_uz, e]
    · have e : ¬ k = (v : Int) := by omega
      rw [← c k (by omega)]; simp [iq_uz, e]
    · by_cases e : k = v
      · rw [e, ev]
        unfold sf_fold
        rw [if_neg (by rw [f]; decide)]
      · exact b k x (by omega)
theorem sp9_13 {N : Nat} {xs : Nat → Int32} {Q : iq_T} {g : iq_I} {l : iq_J} (hr : sf_rv (g 14)) (q : ∀ (g' : iq_I) (y : Int64), (∀ j, ¬ j = 14 → g' j = g j) → (∀ k, 0 ≤ k → k < 9 → g' 14 k = sf_fold (g 14) k) → (∀ t, iq_tb y t = iq_f (sf_fold (g 14)) t) → Q none g' (iq_uz (iq_uz l 13 3 (l 13 3 &&& (iq_of (g 14 1) - 1))) 13 4 y)) : iq_P N xs 9 0 [some (iq_r 13), none] [] g l Q :=
  B9_13 _ _ (sp9_p13 (g := g) hr q 9 0 g (by omega) (fun _ _ => rfl) (fun k x y => by omega) (fun _ _ => rfl))
def sf_lo (k : Int) : Int := if k = 1 then 2 else if k = 3 ∨ k = 6 then 1 else 0
def sf_hi (k p : Int) : Int := if k = 0 then 16 else if k = 1 then 60 else if k = 3 then 24 else if k = 4 then 23 else if k = 6 then 7 else p - 1
theorem sf_lot {a : Int} (h1 : 0 ≤ a) (h2 : a < 9) : ((ij_sa.getD 1 []).getD (Int.toNat a) 0).toInt = sf_lo a := by
  have : a = 0 ∨ a = 1 ∨ a = 2 ∨ a = 3 ∨ a = 4 ∨ a = 5 ∨ a = 6 ∨ a = 7 ∨ a = 8 := by omega
  rcases this with e | e | e | e | e | e | e | e | e <;> subst e <;> rfl
theorem sf_hit2 {a p : Int} (h1 : 0 ≤ a) (h2 : a < 9) (h : sf_fl a = false) : ((ij_sa.getD 2 []).getD (Int.toNat a) 0).toInt = sf_hi a p := by
  have := sf_flf h
  have : a = 0 ∨ a = 1 ∨ a = 3 ∨ a = 4 ∨ a = 6 := by omega
  rcases this with e | e | e | e | e <;> subst e <;> rfl
theorem sf_hif {a p : Int} (h : sf_fl a = true) : sf_hi a p = p - 1 := by
  rcases sf_fli.mp h with e | e | e | e <;> subst e <;> rfl
theorem sf_loR (a : Int) : 0 ≤ sf_lo a ∧ sf_lo a ≤ 2 := by unfold sf_lo; split <;> (try split) <;> omega
theorem sf_hiR {a p : Int} (hp : 2 ≤ p ∧ p ≤ 60) : 0 ≤ sf_hi a p ∧ sf_hi a p ≤ 60 := by
  unfold sf_hi
  repeat' split
  all_goals omega
theorem sp79 {N : Nat} {xs : Nat → Int32} {Q : iq_T} {g : iq_I} {l : iq_J} {a : Int} (h : 0 ≤ a ∧ a < 9) (q : Q (some (iq_i (sf_lo a))) g l) : iq_P N xs 79 0 [some (iq_i a)] [] g l Q :=
  B79 _ _ _ ⟨by omega, fun h => by omega, fun _ => ⟨by omega, fun h => by omega, fun _ => ⟨by omega, by rw [sf_lot h.1 h.2]; exact q⟩⟩⟩
theorem sp81 {N : Nat} {xs : Nat → Int32} {Q : iq_T} {g : iq_I} {l : iq_J} {a p : Int} (h : 0 ≤ a ∧ a < 9) (q : Q (some (iq_i (sf_hi a p))) g l) : iq_P N xs 81 0 [some (iq_i a), some (iq_i p)] [] g l Q :=
  B81 _ _ _ _ (sp3 h (fun f => ⟨_, rfl, by omega, fun h => by omega, fun _ => by rw [← sf_hif f (p := p)]; exact q⟩) (fun f => ⟨_, rfl, by omega, fun _ => ⟨by omega, fun h => by omega, fun _ => ⟨by omega, fun h => by omega, fun _ => ⟨by omega, by rw [sf_hit2 (p := p) h.1 h.2 f]; exact q⟩⟩⟩, fun h => by omega⟩))
def sf_may (p a v : Int) : Prop := (0 ≤ a ∧ a < 9) ∧ sf_lo a ≤ v ∧ v ≤ sf_hi a p
theorem sp175 {N : Nat} {xs : Nat → Int32} {Q : iq_T} {g : iq_I} {l : iq_J} {a v p : Int} (hp : 2 ≤ p ∧ p ≤ 60) (ha : -2147483648 ≤ a ∧ a ≤ 2147483647) (hv : -2147483648 ≤ v ∧ v ≤ 2147483647) (q1 : sf_may p a v → Q (some (iq_i 1)) g l) (q0 : ¬ sf_may p a v → Q (some (iq_i 0)) g l) : iq_P N xs 175 0 [some (iq_i a), some (iq_i v), some (iq_i p)] [] g l Q := by
  have r1 := sf_loR a
  have r2 := sf_hiR (a := a) hp
  unfold sf_may at q1 q0
  exact B175 _ _ _ _ _ ⟨by omega, fun c => q0 (by omega), fun c1 => ⟨by omega, fun c => q0 (by omega), fun c2 => sp79 ⟨c1, c2⟩ ⟨_, rfl, by omega, fun c => q0 (by omega), fun c3 => sp81 ⟨c1, c2⟩ ⟨_, rfl, by omega, fun c => q0 (by omega), fun c4 => q1 ⟨⟨c1, c2⟩, c3, c4⟩⟩⟩⟩⟩
def sf_pu (P : Int → Int) (a v : Int) : Int → Int := fun i => if i = a then v else P i
theorem sf_purv {P : Int → Int} (hp : iq_pb P) {a v : Int} (h : sf_may (P 1) a v) : sf_rv (sf_pu P a v) := by
  obtain ⟨p0, p1, p2, p3, p4, p5, p6, p7, p8⟩ := hp
  obtain ⟨h1, h2, h3⟩ := h
  have : a = 0 ∨ a = 1 ∨ a = 2 ∨ a = 3 ∨ a = 4 ∨ a = 5 ∨ a = 6 ∨ a = 7 ∨ a = 8 := by omega
  unfold sf_rv sf_pu
  rcases this with e | e | e | e | e | e | e | e | e <;> subst e <;> simp [sf_lo, sf_hi] at h2 h3 ⊢ <;> omega
theorem iq_fm64 {P : Int → Int} (hp : iq_pb P) : iq_cn (iq_f P) 64 = iq_m P := by
  have hp1 := hp.2.1
  refine iq_cn_ext (by omega) (fun t a b => ?_)
  rcases hb : iq_f P t with _ | _
  · rfl
  · have := iq_fR hp hb; omega
/-- what a rule makes of the parts, and of what sounds -/
def sf_rP (P : Int → Int) (a v : Int) : Int → Int := sf_fold (sf_pu P a v)
def sf_rS (P : Int → Int) (S : Int64) (a v : Int) : Int64 := S &&& (iq_of (sf_pu P a v 1) - 1)
theorem sf_rSb {P : Int → Int} (hp : iq_pb P) {S : Int64} {a v : Int} (h : sf_may (P 1) a v) (t : Int) : iq_tb (sf_rS P S a v) t = (iq_tb S t && (decide (0 ≤ t) && decide (t < sf_pu P a v 1))) := by
  have := (sf_purv hp h).2.1
  unfold sf_rS
  rw [iq_tb_and, iq_tbbl (by omega) (by omega)]
theorem sf_rZV {P : Int → Int} {S : Int64} {m : Int} {R : Int → Int} (hz : iq_ZV P S m R) {a v : Int} (h : sf_may (P 1) a v) : iq_ZV (sf_rP P a v) (sf_rS P S a v) m R := by
  refine ⟨sf_foldb (sf_purv hz.1 h), fun t ht => ?_, hz.2.2⟩
  rw [sf_rSb hz.1 h, Bool.and_eq_true, Bool.and_eq_true, decide_eq_true_eq, decide_eq_true_eq] at ht
  have e : sf_rP P a v 1 = sf_pu P a v 1 := rfl
  rw [e]
  exact ht.2.2
theorem cRule {N : Nat} {xs : Nat → Int32} {Q : iq_T} {g : iq_I} {l : iq_J} {P : Int → Int} {S : Int64} {m : Int} {R : Int → Int} {a v : Int} (hc : iq_CZ g l 23 24 25 P S m R) (ha : -2147483648 ≤ a ∧ a ≤ 2147483647) (hv : -2147483648 ≤ v ∧ v ≤ 2147483647) (q1 : sf_may (P 1) a v → ¬ P a = v → ∀ (g' : iq_I) (l' : iq_J), iq_KM iq_Mc g l g' l' → iq_CZ g' l' 23 24 25 (sf_rP P a v) (sf_rS P S a v) m R → g' 0 0 = 0 → Q (some (iq_i (iq_m (sf_rP P a v)))) g' l') (q2 : sf_may (P 1) a v → P a = v → ∀ (g' : iq_I) (l' : iq_J), iq_KK g l g' l' → g' 0 0 = 7 → Q (some (iq_i (-1))) g' l') (q0 : ¬ sf_may (P 1) a v → ∀ (g' : iq_I) (l' : iq_J), iq_KK g l g' l' → g' 0 0 = 1 → Q (some (iq_i (-1))) g' l') : iq_P N xs 176 0 [some (iq_r 0), some (iq_i a), some (iq_i v)] [] g l Q := by
  obtain ⟨c0, c1, rfl, c3, c4, c5⟩ := hc
  have hp1 := c0.1.2.1
  have e1 := c1 1 (by omega) (by omega)
  refine B176_0 _ _ _ _ (B80_23 _ _ ⟨_, rfl, ?_⟩)
  rw [e1]
  refine sp175 hp1 ha hv (fun h => ⟨_, rfl, by omega, fun _ => ?_, fun h => by omega⟩) (fun h => ⟨_, rfl, by omega, fun h => by omega, fun _ => sp44 ⟨_, rfl, q0 h _ _ ((iq_KK.refl _ _).uz iq_sx00) (by simp [iq_uz])⟩⟩)
  have ha9 := h.1
  have ea := c1 a ha9.1 ha9.2
  have aR := sf_rvR (sf_pbrv c0.1) ha9.1 ha9.2
  refine sp135_23 ha9 ⟨_, rfl, by omega, fun d => sp83_23 ha9 ⟨rfl, ?_⟩, fun d => sp44 ⟨_, rfl, q2 h (by omega) _ _ ((iq_KK.refl _ _).uz iq_sx00) (by simp [iq_uz])⟩⟩
  have eP : ∀ k, 0 ≤ k → k < 9 → (iq_uz g 24 a v) 24 k = sf_pu P a v k := by
    intro k x y
    unfold sf_pu
    rw [← c1 k x y]
    simp [iq_uz]
  have hrv0 := sf_purv c0.1 h
  have hrv : sf_rv ((iq_uz g 24 a v) 24) := by
    unfold sf_rv
    rw [eP 0 (by omega) (by omega), eP 1 (by omega) (by omega), eP 2 (by omega) (by omega), eP 3 (by omega) (by omega), eP 4 (by omega) (by omega), eP 5 (by omega) (by omega), eP 6 (by omega) (by omega), eP 7 (by omega) (by omega), eP 8 (by omega) (by omega)]
    exact hrv0
  have eF : ∀ k, 0 ≤ k → k < 9 → sf_fold ((iq_uz g 24 a v) 24) k = sf_rP P a v k := by
    intro k x y
    unfold sf_rP sf_fold
    rw [eP k x y, eP 1 (by omega) (by omega)]
  refine sp9_23 hrv (fun g2 y f1 f2 f3 => ⟨rfl, sp89_23 ⟨_, rfl, sp90 ⟨_, rfl, ?_⟩⟩⟩)
  have f3' : ∀ t, iq_tb y t = iq_f (sf_rP P a v) t := fun t => by rw [f3 t, iq_f_congr eF]
  have hz := sf_rZV c0 h
  rw [show (iq_uz (iq_uz l 23 3 (l 23 3 &&& (iq_of ((iq_uz g 24 a v) 24 1) - 1))) 23 4 y) 23 4 = y by simp [iq_uz], iq_cn_congr (h := iq_f (sf_rP P a v)) (fun t _ _ => f3' t), iq_fm64 hz.1]
  have g2o : ∀ j, ¬ j = 24 → g2 j = g j := fun j hj => by rw [f1 j hj]; funext i; simp [iq_uz, hj]
  refine q1 h (by omega) _ _ (((((iq_KM.ofg (M := iq_Mc) (fun j k x y => ?_)).ul (iq_Mc2 (by omega)) (by decide) (by decide)).ul (iq_Mc2 (by omega)) (by decide) (by decide))).uz (.inl iq_sx00)) ⟨hz, fun k x y => ?_, ?_, fun t => ?_, ?_, fun k x y => ?_⟩ (by simp [iq_uz])
  · rw [g2o j (fun e => by rw [e] at y; simp [iq_Mc] at y)]
  · rw [← eF k x y, ← f2 k x y]; simp [iq_uz]
  · rw [eP 1 (by omega) (by omega)]
    unfold sf_rS
    simp [iq_uz]
  · rw [← f3' t]; simp [iq_uz]
  · rw [← c4, ← g2o 23 (by decide)]; simp [iq_uz]
  · rw [← c5 k x y, ← g2o 25 (by decide)]; simp [iq_uz]
