/-! names and the simplest of them. -/
def iq_nf (P : Int → Int) (t : Int) : Int → Bool := fun i => decide (iq_ch (P 1) (P 4) (P 2) (P 5) (i - 60) = t)
def iq_bs (P : Int → Int) (t : Int) : Nat → Int
  | 0 => 61
  | n + 1 => if iq_nf P t n = true ∧ (iq_bs P t n = 61 ∨ (((n : Int) - 60) / P 6).natAbs < (iq_bs P t n / P 6).natAbs) then (n : Int) - 60 else iq_bs P t n
theorem iq_bsR (P : Int → Int) (t : Int) (n : Nat) : iq_bs P t n = 61 ∨ (-60 ≤ iq_bs P t n ∧ iq_bs P t n < (n : Int) - 60) := by
  induction n with
  | zero => left; rfl
  | succ n ih =>
    rw [iq_bs]
    split
    · right; omega
    · omega
theorem iq_bs0 (P : Int → Int) (t : Int) (n : Nat) (hn : n ≤ 121) : iq_bs P t n = 61 ↔ iq_cn (iq_nf P t) n = 0 := by
  induction n with
  | zero => constructor <;> intro _ <;> rfl
  | succ n ih =>
    have ih := ih (by omega)
    have hc := iq_cn_nonneg (iq_nf P t) n
    have hR := iq_bsR P t n
    rw [iq_bs, iq_cn]
    by_cases h : iq_nf P t n = true
    · rw [if_pos h]
      by_cases h2 : iq_bs P t n = 61 ∨ (((n : Int) - 60) / P 6).natAbs < (iq_bs P t n / P 6).natAbs
      · rw [if_pos ⟨h, h2⟩]; omega
      · rw [if_neg (fun e => h2 e.2)]; omega
    · rw [if_neg h, if_neg (fun e => h e.1)]; omega
def aNames (P : Int → Int) (t : Int) : Int × Int := if 0 ≤ t ∧ t < P 1 then (iq_cn (iq_nf P t) 121, 0) else (-1, 1)
theorem sp243_p {N : Nat} {xs : Nat → Int32} {Q : iq_T} {g : iq_I} {l : iq_J} {t : Int} (hs : iq_SR g l 23 24 25 0) (ht : -2147483648 ≤ t ∧ t ≤ 2147483647) (q : Q (some (iq_i (iq_cn (iq_nf (g 24) t) 121))) (iq_uz g 0 0 0) l) (n : Nat) : ∀ k : Nat, k + n = 121 → iq_P N xs 243 22 [some (iq_r 0), some (iq_i t), some (iq_i (iq_cn (iq_nf (g 24) t) k)), some (iq_i ((k : Int) - 60))] [] g l Q := by
  have hp1 := hs.1.2.1
  induction n with
  | zero =>
    intro k h
    rw [show 121 = k by omega] at q
    exact B243_p22_0 _ _ _ _ _ ⟨by omega, fun h => sp90 ⟨_, rfl, q⟩, fun h => by omega⟩
  | succ n ih =>
    intro k h
    have := ih (k + 1) (by omega)
    rw [iq_cn, show ((k + 1 : Nat) : Int) - 60 = (k : Int) - 60 + 1 by omega] at this
    have hr := iq_chR (p := g 24 1) (down := g 24 4) (gen := g 24 2) (root := g 24 5) (k := (k : Int) - 60) (by omega)
    refine B243_p22_0 _ _ _ _ _ ⟨by omega, fun h => by omega, fun h => sp147_23 hs.1 (by omega) ⟨_, rfl, by omega, fun c => ?_, fun c => ?_⟩⟩
    · rw [if_neg (show ¬ iq_nf (g 24) t k = true from fun e => c (by simpa [iq_nf] using e))] at this
      exact this
    · rw [if_pos (show iq_nf (g 24) t k = true from decide_eq_true c)] at this
      exact this
theorem cNames {N : Nat} {xs : Nat → Int32} {Q : iq_T} {g : iq_I} {l : iq_J} {t : Int} (hs : iq_SR g l 23 24 25 0) (hd : -2147483648 ≤ t ∧ t ≤ 2147483647) (q : ∀ (g' : iq_I) (l' : iq_J), iq_KK g l g' l' → g' 0 0 = (aNames (g 24) t).2 → Q (some (iq_i (aNames (g 24) t).1)) g' l') : iq_P N xs 243 0 [some (iq_r 0), some (iq_i t), none, none] [] g l Q := by
  unfold aNames at q
  have hp1 := hs.1.2.1
  refine B243_0 _ _ _ (sp77_23 hd (by omega) (fun a b => ⟨_, rfl, by omega, fun _ => sp243_p hs hd ?_ 121 0 (by omega), fun h => by omega⟩) (fun a => ⟨_, rfl, by omega, fun h => by omega, fun _ => sp44 ⟨_, rfl, ?_⟩⟩))
  · rw [if_pos ⟨a, b⟩] at q
    exact q _ _ ((iq_KK.refl _ _).uz iq_sx00) (by simp [iq_uz])
  · rw [if_neg a] at q
    exact q _ _ ((iq_KK.refl _ _).uz iq_sx00) (by simp [iq_uz])
theorem sp241_p {N : Nat} {xs : Nat → Int32} {Q : iq_T} {l : iq_J} {g0 : iq_I} {t : Int} (hs : iq_SR g0 l 23 24 25 0) (ht : -2147483648 ≤ t ∧ t ≤ 2147483647) (q : ∀ g' : iq_I, (∀ j, ¬ j = 77 → g' j = g0 j) → (∀ k, ¬ k = 28 → ¬ k = 29 → g' 77 k = g0 77 k) → g' 77 28 = iq_bs (g0 24) t 121 → g' 77 29 = iq_cn (iq_nf (g0 24) t) 121 → Q none g' l) (n : Nat) : ∀ (k : Nat) (g : iq_I), k + n = 121 → (∀ j, ¬ j = 77 → g j = g0 j) → (∀ k, ¬ k = 28 → ¬ k = 29 → g 77 k = g0 77 k) → g 77 28 = iq_bs (g0 24) t k → g 77 29 = iq_cn (iq_nf (g0 24) t) k → iq_P N xs 241 14 [some (iq_r 77), some (iq_i t), some (iq_i ((k : Int) - 60))] [] g l Q := by
  have hp := hs.1
  obtain ⟨p0, p1, p2, p3, p4, p5, p6, p7, p8⟩ := hp
  have e1 := hs.p78 1 (by omega) (by omega)
  have e2 := hs.p78 2 (by omega) (by omega)
  have e5 := hs.p78 5 (by omega) (by omega)
  have e6 := hs.p78 6 (by omega) (by omega)
  induction n with
  | zero =>
    intro k g h h3 h3' h4 h5
    have : k = 121 := by omega
    subst this
    exact B241_p14_77 _ _ _ _ ⟨by omega, fun h => q g h3 h3' h4 h5, fun h => by omega⟩
  | succ n ih =>
    intro k g h h3 h3' h4 h5
    have h78 : g 78 = g0 78 := h3 78 (by decide)
    have hpb : iq_pb (g 78) := by rw [h78]; exact iq_pb_congr hs.p78 hs.1
    have hr := iq_chR (p := g0 24 1) (down := g0 24 4) (gen := g0 24 2) (root := g0 24 5) (k := (k : Int) - 60) (by omega)
    have hR := iq_bsR (g0 24) t k
    have hcn := iq_cn_nonneg (iq_nf (g0 24) t) k
    have ek : ((k + 1 : Nat) : Int) - 60 = (k : Int) - 60 + 1 := by omega
    have hS : iq_bs (g0 24) t (k + 1) = if iq_nf (g0 24) t k = true ∧ (iq_bs (g0 24) t k = 61 ∨ (((k : Int) - 60) / g0 24 6).natAbs < (iq_bs (g0 24) t k / g0 24 6).natAbs) then (k : Int) - 60 else iq_bs (g0 24) t k := rfl
    have hC : iq_cn (iq_nf (g0 24) t) (k + 1) = iq_cn (iq_nf (g0 24) t) k + (if iq_nf (g0 24) t k = true then 1 else 0) := rfl
    refine B241_p14_77 _ _ _ _ ⟨by omega, fun h => by omega, fun h => sp112 hpb (by omega) (by rw [h78, e2]; omega) ⟨_, rfl, ?_⟩⟩
    rw [h78, hs.ch, e2, e5]
    refine ⟨by omega, fun c => ?_, fun c => ?_⟩
    · have hf : iq_nf (g0 24) t k = true := decide_eq_true c
      rw [if_pos hf] at hC
      refine ⟨by omega, fun c2 => ?_, fun c2 => ?_⟩
      · have hb : iq_bs (g0 24) t k = 61 := by omega
        rw [if_pos ⟨hf, .inl hb⟩] at hS
        rw [← ek]
        refine ih (k + 1) _ (by omega) (fun j a => ?_) (fun i a b => ?_) ?_ ?_
        · rw [← h3 j a]; funext i; simp [iq_uz, a]
        · rw [← h3' i a b]; simp [iq_uz, a, b]
        · rw [hS]; simp [iq_uz]
        · rw [hC, ← h5]; simp [iq_uz]
      · have hb : ¬ iq_bs (g0 24) t k = 61 := by omega
        have h78' : (iq_uz g 77 29 (g 77 29 + 1)) 78 = g0 78 := by rw [← h78]; funext i; simp [iq_uz]
        have hpb' : iq_pb ((iq_uz g 77 29 (g 77 29 + 1)) 78) := by rw [h78']; exact iq_pb_congr hs.p78 hs.1
        have e28 : (iq_uz g 77 29 (g 77 29 + 1)) 77 28 = iq_bs (g0 24) t k := by rw [← h4]; simp [iq_uz]
        have d1 : -60 ≤ ((k : Int) - 60) / g0 24 6 ∧ ((k : Int) - 60) / g0 24 6 ≤ 60 := by
          have : g0 24 6 = 1 ∨ g0 24 6 = 2 ∨ g0 24 6 = 3 ∨ g0 24 6 = 4 ∨ g0 24 6 = 5 ∨ g0 24 6 = 6 ∨ g0 24 6 = 7 := by omega
          rcases this with e | e | e | e | e | e | e <;> rw [e] <;> omega
        have d2 : -60 ≤ iq_bs (g0 24) t k / g0 24 6 ∧ iq_bs (g0 24) t k / g0 24 6 ≤ 60 := by
          have : g0 24 6 = 1 ∨ g0 24 6 = 2 ∨ g0 24 6 = 3 ∨ g0 24 6 = 4 ∨ g0 24 6 = 5 ∨ g0 24 6 = 6 ∨ g0 24 6 = 7 := by omega
          rcases this with e | e | e | e | e | e | e <;> rw [e] <;> omega
        refine sp235 hpb' (by omega) ⟨_, rfl, ?_⟩
        rw [h78', e6]
        refine sp239 (by omega) ⟨_, rfl, ?_⟩
        rw [e28]
        refine sp235 hpb' (by omega) ⟨_, rfl, ?_⟩
        rw [h78', e6]
        refine sp239 (by omega) ⟨_, rfl, by omega, fun c3 => ?_, fun c3 => ?_⟩
        · rw [if_neg (by rintro ⟨-, e | e⟩ <;> omega)] at hS
          rw [← ek]
          refine ih (k + 1) _ (by omega) (fun j a => ?_) (fun i a b => ?_) ?_ ?_
          · rw [← h3 j a]; funext i; simp [iq_uz, a]
          · rw [← h3' i a b]; simp [iq_uz, b]
          · rw [hS]; exact e28
          · rw [hC, ← h5]; simp [iq_uz]
        · rw [if_pos ⟨hf, .inr (by omega)⟩] at hS
          rw [← ek]
          refine ih (k + 1) _ (by omega) (fun j a => ?_) (fun i a b => ?_) ?_ ?_
          · rw [← h3 j a]; funext i; simp [iq_uz, a]
          · rw [← h3' i a b]; simp [iq_uz, a, b]
          · rw [hS]; simp [iq_uz]
          · rw [hC, ← h5]; simp [iq_uz]
    · have hf : ¬ iq_nf (g0 24) t k = true := fun e => c (by simpa [iq_nf] using e)
      rw [if_neg hf] at hC
      rw [if_neg (fun e => hf e.1)] at hS
      rw [← ek]
      exact ih (k + 1) g (by omega) h3 h3' (by rw [hS, h4]) (by rw [hC, h5]; omega)
theorem sp241 {N : Nat} {xs : Nat → Int32} {Q : iq_T} {g : iq_I} {l : iq_J} {t : Int} (hs : iq_SR g l 23 24 25 0) (ht : -2147483648 ≤ t ∧ t ≤ 2147483647) (q : ∀ g' : iq_I, (∀ j, ¬ j = 77 → g' j = g j) → (∀ k, ¬ k = 28 → ¬ k = 29 → g' 77 k = g 77 k) → g' 77 28 = iq_bs (g 24) t 121 → g' 77 29 = iq_cn (iq_nf (g 24) t) 121 → Q none g' l) : iq_P N xs 241 0 [some (iq_r 77), some (iq_i t), none] [] g l Q := by
  refine B241_77 _ _ _ (sp241_p hs ht q 121 0 _ (by omega) (fun j a => ?_) (fun k a b => ?_) ?_ ?_)
  · funext i; simp [iq_uz, a]
  · simp [iq_uz, a, b]
  · simp [iq_uz, iq_bs]
  · simp [iq_uz, iq_cn]
theorem iq_KKn {g g' : iq_I} {l : iq_J} (h : ∀ j, ¬ j = 77 → g' j = g j) (h2 : ∀ k, ¬ k = 28 → ¬ k = 29 → g' 77 k = g 77 k) : iq_KK g l g' l := by
  refine iq_KK.ofg (fun j k hb => ?_)
  by_cases c : j = 77
  · subst c
    refine h2 k (fun e => ?_) (fun e => ?_)
    · rw [e] at hb; simp [iq_sx] at hb
    · rw [e] at hb; simp [iq_sx] at hb
  · exact congrFun (h j c) k
theorem mNames {N : Nat} {xs : Nat → Int32} {Q : iq_T} {g : iq_I} {l : iq_J} {t : Int} (hs : iq_SR g l 23 24 25 0) (hd : -2147483648 ≤ t ∧ t ≤ 2147483647) (q : ∀ (g' : iq_I) (l' : iq_J), iq_KK g l g' l' → g' 0 0 = g 0 0 → g' 77 1 = (aNames (g 24) t).2 → Q (some (iq_i (aNames (g 24) t).1)) g' l') : iq_P N xs 244 0 [some (iq_r 77), some (iq_i t)] [] g l Q := by
  unfold aNames at q
  have hp1 := hs.1.2.1
  have e1 := hs.p78 1 (by omega) (by omega)
  refine B244_77 _ _ _ (sp158 hd (by omega) (fun a b => ⟨_, rfl, by omega, fun _ => sp241 hs hd (fun g' f1 f2 f3 f4 => ⟨rfl, sp115 ⟨_, rfl, ?_⟩⟩), fun h => by omega⟩) (fun a => ⟨_, rfl, by omega, fun h => by omega, fun _ => sp98 ⟨_, rfl, ?_⟩⟩))
  · rw [e1] at b
    rw [if_pos ⟨a, b⟩] at q
    rw [f4]
    exact q _ _ ((iq_KKn f1 f2).uz iq_sx771) (by simp [iq_uz, f1 0 (by decide)]) (by simp [iq_uz])
  · rw [e1] at a
    rw [if_neg a] at q
    exact q _ _ ((iq_KK.refl _ _).uz iq_sx771) (by simp [iq_uz]) (by simp [iq_uz])
def aSimplest (P : Int → Int) (t w : Int) : Int × Int := if (0 ≤ t ∧ t < P 1) ∧ 0 ≤ w ∧ w ≤ 2 then (if iq_bs P t 121 = 61 then (-1, 6) else (if w = 2 then iq_bs P t 121 else if w = 0 then iq_bs P t 121 % P 6 else iq_bs P t 121 / P 6, 0)) else (-1, 1)
theorem mSimplest {N : Nat} {xs : Nat → Int32} {Q : iq_T} {g : iq_I} {l : iq_J} {t w : Int} (hs : iq_SR g l 23 24 25 0) (hd : -2147483648 ≤ t ∧ t ≤ 2147483647) (he : -2147483648 ≤ w ∧ w ≤ 2147483647) (q : ∀ (g' : iq_I) (l' : iq_J), iq_KK g l g' l' → g' 0 0 = g 0 0 → g' 77 1 = (aSimplest (g 24) t w).2 → Q (some (iq_i (aSimplest (g 24) t w).1)) g' l') : iq_P N xs 242 0 [some (iq_r 77), some (iq_i t), some (iq_i w)] [] g l Q := by
  unfold aSimplest at q
  have hp1 := hs.1.2.1
  have e1 := hs.p78 1 (by omega) (by omega)
  have e6 := hs.p78 6 (by omega) (by omega)
  have no : ¬ ((0 ≤ t ∧ t < g 24 1) ∧ 0 ≤ w ∧ w ≤ 2) → iq_P N xs 98 0 [some (iq_r 77), some (iq_i 1)] [] g l (fun r g1 l2 => ∃ z3, r = some (iq_i z3) ∧ (Q (some (iq_i z3)) g1 l2)) := fun c => by
    rw [if_neg c] at q
    exact sp98 ⟨_, rfl, q _ _ ((iq_KK.refl _ _).uz iq_sx771) (by simp [iq_uz]) (by simp [iq_uz])⟩
  refine B242_77 _ _ _ _ (sp158 hd (by omega) (fun a b => ⟨_, rfl, by omega, fun h => by omega, fun _ => ⟨by omega, fun c => no (by omega), fun c => ⟨by omega, fun c2 => sp241 hs hd (fun g' f1 f2 f3 f4 => ⟨rfl, ?_⟩), fun c2 => no (by omega)⟩⟩⟩) (fun a => ⟨_, rfl, by omega, fun _ => no (by omega), fun h => by omega⟩))
  rw [if_pos ⟨⟨a, by omega⟩, c, c2⟩] at q
  have h0 := iq_bs0 (g 24) t 121 (by omega)
  have hR := iq_bsR (g 24) t 121
  have hcn := iq_cn_nonneg (iq_nf (g 24) t) 121
  have g00 : g' 0 0 = g 0 0 := by rw [f1 0 (by decide)]
  have h78 : g' 78 = g 78 := f1 78 (by decide)
  have hpb : iq_pb (g' 78) := by rw [h78]; exact iq_pb_congr hs.p78 hs.1
  rw [f4, f3]
  refine ⟨by omega, fun d => ?_, fun d => sp98 ⟨_, rfl, ?_⟩⟩
  · rw [if_neg (by omega)] at q
    refine ⟨by omega, fun d2 => ⟨by omega, fun d3 => sp115 ⟨_, rfl, ?_⟩, fun d3 => sp235 hpb (by omega) ⟨_, rfl, sp115 ⟨_, rfl, ?_⟩⟩⟩, fun d2 => sp230 hpb (by omega) ⟨_, rfl, sp115 ⟨_, rfl, ?_⟩⟩⟩
    · rw [if_pos (by omega)] at q
      exact q _ _ ((iq_KKn f1 f2).uz iq_sx771) (by simp [iq_uz, g00]) (by simp [iq_uz])
    · rw [if_neg (by omega), if_neg d2] at q
      rw [h78, e6]
      exact q _ _ ((iq_KKn f1 f2).uz iq_sx771) (by simp [iq_uz, g00]) (by simp [iq_uz])
    · rw [if_neg (by omega), if_pos d2] at q
      rw [h78, e6]
      exact q _ _ ((iq_KKn f1 f2).uz iq_sx771) (by simp [iq_uz, g00]) (by simp [iq_uz])
  · rw [if_pos (h0.mpr d)] at q
    exact q _ _ ((iq_KKn f1 f2).uz iq_sx771) (by simp [iq_uz, g00]) (by simp [iq_uz])
theorem sp240_p {N : Nat} {xs : Nat → Int32} {Q : iq_T} {g : iq_I} {l : iq_J} {t w : Int} (hs : iq_SR g l 23 24 25 0) (ht : -2147483648 ≤ t ∧ t ≤ 2147483647) (hw : 0 ≤ w ∧ w ≤ 2) (q1 : iq_bs (g 24) t 121 = 61 → Q (some (iq_i (-1))) (iq_uz g 0 0 6) l) (q0 : ¬ iq_bs (g 24) t 121 = 61 → Q (some (iq_i (if w = 2 then iq_bs (g 24) t 121 else if w = 0 then iq_bs (g 24) t 121 % g 24 6 else iq_bs (g 24) t 121 / g 24 6))) (iq_uz g 0 0 0) l) (n : Nat) : ∀ (k : Nat) (d6 : Option iq_V), k + n = 121 → iq_P N xs 240 35 [some (iq_r 0), some (iq_i t), some (iq_i w), some (iq_i (if iq_bs (g 24) t k = 61 then 0 else 1)), some (iq_i (if iq_bs (g 24) t k = 61 then 0 else iq_bs (g 24) t k)), some (iq_i ((k : Int) - 60)), d6] [] g l Q := by
  have hp := hs.1
  obtain ⟨p0, p1, p2, p3, p4, p5, p6, p7, p8⟩ := hp
  induction n with
  | zero =>
    intro k d6 h
    have : k = 121 := by omega
    subst this
    have hR := iq_bsR (g 24) t 121
    by_cases c : iq_bs (g 24) t 121 = 61
    · rw [if_pos c, if_pos c]
      exact B240_p35_0 _ _ _ _ _ _ _ _ ⟨by omega, fun h => ⟨by omega, fun h => by omega, fun _ => sp44 ⟨_, rfl, q1 c⟩⟩, fun h => by omega⟩
    · rw [if_neg c, if_neg c]
      have q0 := q0 c
      refine B240_p35_0 _ _ _ _ _ _ _ _ ⟨by omega, fun h => ⟨by omega, fun _ => ⟨by omega, fun c2 => ⟨by omega, fun c3 => sp233 hs.1 (by omega) ⟨_, rfl, sp90 ⟨_, rfl, ?_⟩⟩, fun c3 => sp228 hs.1 (by omega) ⟨_, rfl, sp90 ⟨_, rfl, ?_⟩⟩⟩, fun c2 => sp90 ⟨_, rfl, ?_⟩⟩, fun h => by omega⟩, fun h => by omega⟩
      · rw [if_neg c2, if_neg c3] at q0; exact q0
      · rw [if_neg c2, if_pos c3] at q0; exact q0
      · rw [if_pos c2] at q0; exact q0
  | succ n ih =>
    intro k d6 h
    have hR := iq_bsR (g 24) t k
    have hr := iq_chR (p := g 24 1) (down := g 24 4) (gen := g 24 2) (root := g 24 5) (k := (k : Int) - 60) (by omega)
    have ek : ((k + 1 : Nat) : Int) - 60 = (k : Int) - 60 + 1 := by omega
    have hS : iq_bs (g 24) t (k + 1) = if iq_nf (g 24) t k = true ∧ (iq_bs (g 24) t k = 61 ∨ (((k : Int) - 60) / g 24 6).natAbs < (iq_bs (g 24) t k / g 24 6).natAbs) then (k : Int) - 60 else iq_bs (g 24) t k := rfl
    have ih := fun d6 => ih (k + 1) d6 (by omega)
    rw [ek] at ih
    by_cases c : iq_bs (g 24) t k = 61
    · rw [if_pos c, if_pos c]
      refine B240_p35_0 _ _ _ _ _ _ _ _ ⟨by omega, fun h => by omega, fun h => ⟨by omega, fun _ => sp147_23 hs.1 (by omega) ⟨_, rfl, by omega, fun c2 => ?_, fun c2 => ?_⟩, fun h => by omega⟩⟩
      · have hf : ¬ iq_nf (g 24) t k = true := fun e => c2 (by simpa [iq_nf] using e)
        rw [if_neg (fun e => hf e.1)] at hS
        rw [hS, if_pos c, if_pos c] at ih
        exact ih _
      · have hf : iq_nf (g 24) t k = true := decide_eq_true c2
        rw [if_pos ⟨hf, .inl c⟩] at hS
        rw [hS, if_neg (by omega), if_neg (by omega)] at ih
        exact ih _
    · rw [if_neg c, if_neg c]
      have d1 : -60 ≤ ((k : Int) - 60) / g 24 6 ∧ ((k : Int) - 60) / g 24 6 ≤ 60 := by
        have : g 24 6 = 1 ∨ g 24 6 = 2 ∨ g 24 6 = 3 ∨ g 24 6 = 4 ∨ g 24 6 = 5 ∨ g 24 6 = 6 ∨ g 24 6 = 7 := by omega
        rcases this with e | e | e | e | e | e | e <;> rw [e] <;> omega
      have d2 : -60 ≤ iq_bs (g 24) t k / g 24 6 ∧ iq_bs (g 24) t k / g 24 6 ≤ 60 := by
        have : g 24 6 = 1 ∨ g 24 6 = 2 ∨ g 24 6 = 3 ∨ g 24 6 = 4 ∨ g 24 6 = 5 ∨ g 24 6 = 6 ∨ g 24 6 = 7 := by omega
        rcases this with e | e | e | e | e | e | e <;> rw [e] <;> omega
      refine B240_p35_0 _ _ _ _ _ _ _ _ ⟨by omega, fun h => by omega, fun h => ⟨by omega, fun h => by omega, fun _ => sp233 hs.1 (by omega) ⟨_, rfl, sp239 (by omega) ⟨_, rfl, sp233 hs.1 (by omega) ⟨_, rfl, sp239 (by omega) ⟨_, rfl, by omega, fun c2 => ?_, fun c2 => sp147_23 hs.1 (by omega) ⟨_, rfl, by omega, fun c3 => ?_, fun c3 => ?_⟩⟩⟩⟩⟩⟩⟩
      · rw [if_neg (by rintro ⟨-, e | e⟩ <;> omega)] at hS
        rw [hS, if_neg c, if_neg c] at ih
        exact ih _
      · have hf : ¬ iq_nf (g 24) t k = true := fun e => c3 (by simpa [iq_nf] using e)
        rw [if_neg (fun e => hf e.1)] at hS
        rw [hS, if_neg c, if_neg c] at ih
        exact ih _
      · have hf : iq_nf (g 24) t k = true := decide_eq_true c3
        rw [if_pos ⟨hf, .inr (by omega)⟩] at hS
        rw [hS, if_neg (by omega), if_neg (by omega)] at ih
        exact ih _
theorem cSimplest {N : Nat} {xs : Nat → Int32} {Q : iq_T} {g : iq_I} {l : iq_J} {t w : Int} (hs : iq_SR g l 23 24 25 0) (hd : -2147483648 ≤ t ∧ t ≤ 2147483647) (he : -2147483648 ≤ w ∧ w ≤ 2147483647) (q : ∀ (g' : iq_I) (l' : iq_J), iq_KK g l g' l' → g' 0 0 = (aSimplest (g 24) t w).2 → Q (some (iq_i (aSimplest (g 24) t w).1)) g' l') : iq_P N xs 240 0 [some (iq_r 0), some (iq_i t), some (iq_i w), none, none, none, none] [] g l Q := by
  unfold aSimplest at q
  have hp1 := hs.1.2.1
  have no : ¬ ((0 ≤ t ∧ t < g 24 1) ∧ 0 ≤ w ∧ w ≤ 2) → iq_P N xs 44 0 [some (iq_r 0), some (iq_i 1)] [] g l (fun r g1 l2 => ∃ z3, r = some (iq_i z3) ∧ (Q (some (iq_i z3)) g1 l2)) := fun c => by
    rw [if_neg c] at q
    exact sp44 ⟨_, rfl, q _ _ ((iq_KK.refl _ _).uz iq_sx00) (by simp [iq_uz])⟩
  refine B240_0 _ _ _ _ (sp77_23 hd (by omega) (fun a b => ⟨_, rfl, by omega, fun h => by omega, fun _ => ⟨by omega, fun c => no (by omega), fun c => ⟨by omega, fun c2 => ?_, fun c2 => no (by omega)⟩⟩⟩) (fun a => ⟨_, rfl, by omega, fun _ => no (by omega), fun h => by omega⟩))
  rw [if_pos ⟨⟨a, b⟩, c, c2⟩] at q
  refine sp240_p hs hd ⟨c, c2⟩ (fun d => ?_) (fun d => ?_) 121 0 none (by omega)
  · rw [if_pos d] at q
    exact q _ _ ((iq_KK.refl _ _).uz iq_sx00) (by simp [iq_uz])
  · rw [if_neg d] at q
    exact q _ _ ((iq_KK.refl _ _).uz iq_sx00) (by simp [iq_uz])
