/-! Texts: which word; numbers, signs; on both sides. -/
section UA
variable {N : Nat} {xs : Nat → Int32} {Q : iq_T} {g : iq_I} {l : iq_J} {A : Int → Int} {n s e : Int}
theorem sp99_c {m : Nat} (h : sf_MB g A n) (e12 : g 77 12 = s) (hs : 0 ≤ s ∧ s + sf_Ln m ≤ n) (hm : m < 21) (q1 : sf_eq A s (fun j => sf_sgn 23 (sf_K m + j)) (sf_Ln m) = true → Q (some (iq_i m)) g l) (q0 : sf_eq A s (fun j => sf_sgn 23 (sf_K m + j)) (sf_Ln m) = false → ∀ d4 d5 d6 : Option iq_V, iq_P N xs 99 14 [some (iq_r 77), some (iq_r 1000033), some (iq_i ((m : Int) + 1)), some (iq_i (((sf_K m + sf_Ln m : Nat) : Int) + 1)), d4, d5, d6] [] g l Q) (f : Nat) : ∀ (j : Nat), j + f = sf_Ln m → sf_eq A s (fun j => sf_sgn 23 (sf_K m + j)) j = true → iq_P N xs 99 68 [some (iq_r 77), some (iq_r 1000033), some (iq_i m), some (iq_i (sf_K m)), some (iq_i (sf_K m + sf_Ln m : Nat)), some (iq_i 1), some (iq_i (sf_K m + j : Nat))] [] g l Q := by
  have hn := h.2.1
  have kn := sf_kn ⟨m, hm⟩
  simp only at kn
  induction f with
  | zero =>
    intro j hj he
    have e : j = sf_Ln m := by omega
    subst e
    exact B99_p68_77_1000033 _ _ _ _ _ _ _ ⟨by omega, fun _ => ⟨by omega, fun h => by omega, fun _ => q1 he⟩, fun h => by omega⟩
  | succ f ih =>
    intro j hj he
    refine B99_p68_77_1000033 _ _ _ _ _ _ _ ⟨by omega, fun h => by omega, fun _ => ⟨by omega, fun h => by omega, fun _ => sp71_23 (by omega) (fun cR => ⟨_, rfl, ?_⟩)⟩⟩
    rw [e12, show s + ((sf_K m + j : Nat) : Int) - (sf_K m : Int) = s + j by omega]
    refine sp92 h (by omega) ⟨_, rfl, ?_⟩
    rw [if_pos (by omega)]
    have cr := h.r (k := s + j) (by omega) (by omega)
    rw [show ((sf_K m + j : Nat) : Int) + 1 = ((sf_K m + (j + 1) : Nat) : Int) by omega]
    refine ⟨by omega, fun d => ?_, fun d => ih (j + 1) (by omega) ?_⟩
    · have ne : sf_eq A s (fun j => sf_sgn 23 (sf_K m + j)) (sf_Ln m) = false := sf_eqn (k := j) (by omega) (fun z => d (by rw [z]; congr 1))
      have q0 := q0 ne
      -- the rest isn't looked at
      have z : ∀ v6 : Int, -2147483648 ≤ v6 ∧ v6 ≤ 2147483647 → iq_P N xs 99 68 [some (iq_r 77), some (iq_r 1000033), some (iq_i m), some (iq_i (sf_K m)), some (iq_i (sf_K m + sf_Ln m : Nat)), some (iq_i 0), some (iq_i v6)] [] g l Q := fun v6 hv => by
        refine B99_p68_77_1000033 _ _ _ _ _ _ _ ⟨by omega, fun _ => ⟨by omega, fun _ => q0 _ _ _, fun h => absurd rfl h⟩, fun _ => ⟨by omega, fun _ => ⟨by omega, fun _ => q0 _ _ _, fun h => absurd rfl h⟩, fun h => absurd rfl h⟩⟩
      exact z _ (by omega)
    · rw [sf_eq, he]
      have : A (s + j) = sf_sgn 23 (sf_K m + (j : Int)) := by rw [← d]; congr 1
      simp [this]
theorem sp99_s {m : Nat} (hm : m < 21) (g12 : g 77 12 = s) (g13 : g 77 13 = e) (hr : -100000 ≤ e - s ∧ e - s ≤ 100000) (q : ∀ b : Int, b = (if (sf_Ln m : Int) = e - s then 1 else 0) → iq_P N xs 99 68 [some (iq_r 77), some (iq_r 1000033), some (iq_i m), some (iq_i (sf_K m)), some (iq_i (sf_K m + sf_Ln m : Nat)), some (iq_i b), some (iq_i (sf_K m))] [] g l Q) (f : Nat) : ∀ (j : Nat) (d5 d6 : Option iq_V), j + f = sf_Ln m → iq_P N xs 99 25 [some (iq_r 77), some (iq_r 1000033), some (iq_i m), some (iq_i (sf_K m)), some (iq_i (sf_K m + j : Nat)), d5, d6] [] g l Q := by
  have kn := sf_kn ⟨m, hm⟩
  simp only at kn
  induction f with
  | zero =>
    intro j d5 d6 hj
    have ej : j = sf_Ln m := by omega
    have kb := (sf_kb ⟨m, hm⟩ ⟨j, by omega⟩).2 ej
    simp only at kb
    subst ej
    refine B99_p25_77_1000033 _ _ _ _ _ _ _ (sp71_23 (by omega) (fun cR => ⟨_, rfl, by omega, fun _ => ?_, fun h => ?_⟩))
    · rw [g12, g13]
      refine ⟨by omega, fun c => q 0 (by rw [if_neg (by omega)]), fun c => q 1 (by rw [if_pos (by omega)])⟩
    · refine absurd ?_ h
      rw [← kb]; congr 1
  | succ f ih =>
    intro j d5 d6 hj
    have kb := (sf_kb ⟨m, hm⟩ ⟨j, by omega⟩).1 (by simp only; omega)
    simp only at kb
    refine B99_p25_77_1000033 _ _ _ _ _ _ _ (sp71_23 (by omega) (fun cR => ⟨_, rfl, by omega, fun h => ?_, fun _ => ?_⟩))
    · refine absurd ?_ kb
      rw [← h]; congr 1
    · rw [show ((sf_K m + j : Nat) : Int) + 1 = ((sf_K m + (j + 1) : Nat) : Int) by omega]
      exact ih (j + 1) _ _ (by omega)
theorem sp99_p (h : sf_MB g A n) (e12 : g 77 12 = s) (e13 : g 77 13 = e) (hs : 0 ≤ s ∧ s ≤ e ∧ e ≤ n) (f : Nat) : ∀ (m : Nat) (d4 d5 d6 : Option iq_V), m + f = 21 → Q (some (iq_i (sf_key A s e f m))) g l → iq_P N xs 99 14 [some (iq_r 77), some (iq_r 1000033), some (iq_i m), some (iq_i (sf_K m)), d4, d5, d6] [] g l Q := by
  have hn := h.2.1
  induction f with
  | zero =>
    intro m d4 d5 d6 hm q
    have em : m = 21 := by omega
    subst em
    refine B99_p14_77_1000033 _ _ _ _ _ _ _ (sp66_23 ⟨_, rfl, ?_⟩)
    rw [show ((sf_K 21 : Nat) : Int) = 121 from rfl]
    exact ⟨by omega, fun _ => q, fun h => by omega⟩
  | succ f ih =>
    intro m d4 d5 d6 hm q
    have kn := sf_kn ⟨m, by omega⟩
    simp only at kn
    rw [sf_key] at q
    have no : sf_kw A s e m = false → ∀ d4 d5 d6 : Option iq_V, iq_P N xs 99 14 [some (iq_r 77), some (iq_r 1000033), some (iq_i ((m : Int) + 1)), some (iq_i (((sf_K m + sf_Ln m : Nat) : Int) + 1)), d4, d5, d6] [] g l Q := fun c d4 d5 d6 => by
      rw [if_neg (by rw [c]; decide)] at q
      have z := ih (m + 1) d4 d5 d6 (by omega) q
      rw [kn.1] at z
      rw [show ((m : Int) + 1) = ((m + 1 : Nat) : Int) by omega, show ((sf_K m + sf_Ln m : Nat) : Int) + 1 = ((sf_K m + sf_Ln m + 1 : Nat) : Int) by omega]
      exact z
    refine B99_p14_77_1000033 _ _ _ _ _ _ _ (sp66_23 ⟨_, rfl, by omega, fun h => by omega, fun _ => ?_⟩)
    refine sp99_s (m := m) (by omega) e12 e13 (by omega) (fun b hb => ?_) (sf_Ln m) 0 _ _ (by omega)
    by_cases c : (sf_Ln m : Int) = e - s
    · rw [if_pos c] at hb
      subst hb
      refine sp99_c (s := s) h e12 (by omega) (by omega) (fun t => ?_) (fun t => no ?_) (sf_Ln m) 0 (by omega) rfl
      · rw [if_pos (by unfold sf_kw sf_wd; rw [t]; simp; omega)] at q
        exact q
      · unfold sf_kw sf_wd; rw [t]; simp
    · rw [if_neg c] at hb
      subst hb
      have nk : sf_kw A s e m = false := by
        unfold sf_kw sf_wd
        have : ¬ e - s = (sf_Ln m : Int) := by omega
        simp [this]
      exact B99_p68_77_1000033 _ _ _ _ _ _ _ ⟨by omega, fun h => by omega, fun _ => ⟨by omega, fun _ => ⟨by omega, fun _ => no nk _ _ _, fun h => absurd rfl h⟩, fun h => absurd rfl h⟩⟩
end UA
/-- the word at p, of all words; -1 if there is none -/
def sf_kp (A : Int → Int) (n p : Int) : Int := if sf_tk A n p = 1 then sf_ky A (sf_ts A n p) (sf_te A n p) else -1
theorem sf_kpR (A : Int → Int) (n p : Int) : -1 ≤ sf_kp A n p ∧ sf_kp A n p ≤ 20 := by
  unfold sf_kp
  split
  · exact sf_kyR _ _ _
  · omega
theorem sf_tkR (A : Int → Int) (n p : Int) : 0 ≤ sf_tk A n p ∧ sf_tk A n p ≤ 4 := by
  unfold sf_tk sf_tk1
  split
  · omega
  split
  · omega
  split
  · split <;> omega
  split <;> omega
theorem sf_mkv (A : Int → Int) (n p : Int) {k : Int} (hk : k = 0 ∨ k = 1 ∨ k = 2 ∨ k = 3 ∨ k = 4) : sf_mkd (sf_tk A n p) = sf_mkd k ↔ sf_tk A n p = k := by
  have := sf_tkR A n p
  have c : sf_tk A n p = 0 ∨ sf_tk A n p = 1 ∨ sf_tk A n p = 2 ∨ sf_tk A n p = 3 ∨ sf_tk A n p = 4 := by omega
  rcases c with c | c | c | c | c <;> rw [c] <;> rcases hk with e | e | e | e | e <;> subst e <;> decide
theorem sp99 {N : Nat} {xs : Nat → Int32} {Q : iq_T} {g : iq_I} {l : iq_J} {A : Int → Int} {n p : Int} (h : sf_MB g A n) (hp : 0 ≤ p ∧ p ≤ n) (t : sf_MT1 g A n p) (q : Q (some (iq_i (sf_kp A n p))) g l) : iq_P N xs 99 0 [some (iq_r 77), some (iq_r 1000033), none, none, none, none, none] [] g l Q := by
  have sR := sf_tsR (A := A) hp
  have eR := sf_teR (A := A) hp
  have tR := sf_tkR A n p
  unfold sf_kp at q
  refine B99_77_1000033 _ _ ?_
  rw [t.1]
  have m2 := sf_mkv A n p (k := 1) (by omega)
  have e2 : sf_mkd 1 = 2 := rfl
  rw [e2] at m2
  have mR : 0 ≤ sf_mkd (sf_tk A n p) ∧ sf_mkd (sf_tk A n p) ≤ 4 := by unfold sf_mkd; omega
  refine ⟨by omega, fun c => ?_, fun c => ?_⟩
  · have k1 := m2.mp c
    rw [if_pos k1] at q
    exact sp99_p h t.2.1 (t.2.2.1 (by omega)) (by omega) 21 0 _ _ _ (by omega) q
  · rw [if_neg (fun z => c (m2.mpr z))] at q
    exact q
/-- the class stands behind the TOKEN at p -/
def sf_CT (g : iq_I) (A : Int → Int) (n p : Int) : Prop := g 10 3 = sf_te A n p ∧ g 10 4 = sf_tk A n p ∧ g 10 5 = sf_ts A n p ∧ (sf_tk A n p = 2 ∨ sf_tk A n p = 3 → g 10 6 = sf_tv A n p)
theorem sf_is_0 {N : Nat} {xs : Nat → Int32} {Q : iq_T} {g : iq_I} {l : iq_J} {A : Int → Int} {n p : Int} (h : sf_AB g A n) (hp : 0 ≤ p ∧ p ≤ n) (t : sf_CT g A n p) (q1 : sf_kp A n p = 0 → Q (some (iq_i 1)) g l) (q0 : ¬ sf_kp A n p = 0 → Q (some (iq_i 0)) g l) : iq_P N xs 72 0 [some (iq_r 10), some (iq_r 1000010), none] [] g l Q := by
  have sR := sf_tsR (A := A) hp
  have eR := sf_teR (A := A) hp
  have tR := sf_tkR A n p
  unfold sf_kp at q1 q0
  have ki := sf_kyi (A := A) (s := sf_ts A n p) (e := sf_te A n p) (n := 0) (by omega)
  refine sp72_0 h t.1 t.2.2.1 (by rw [t.2.1]; exact tR) (by omega) (fun a b => q1 ?_) (fun a => q0 (fun z => a ?_))
  · rw [t.2.1] at a
    rw [if_pos a]
    exact ki.mp b
  · rw [t.2.1]
    by_cases c : sf_tk A n p = 1
    · rw [if_pos c] at z
      exact ⟨c, ki.mpr z⟩
    · rw [if_neg c] at z; omega
theorem sf_is_1 {N : Nat} {xs : Nat → Int32} {Q : iq_T} {g : iq_I} {l : iq_J} {A : Int → Int} {n p : Int} (h : sf_AB g A n) (hp : 0 ≤ p ∧ p ≤ n) (t : sf_CT g A n p) (q1 : sf_kp A n p = 1 → Q (some (iq_i 1)) g l) (q0 : ¬ sf_kp A n p = 1 → Q (some (iq_i 0)) g l) : iq_P N xs 72 0 [some (iq_r 10), some (iq_r 1000011), none] [] g l Q := by
  have sR := sf_tsR (A := A) hp
  have eR := sf_teR (A := A) hp
  have tR := sf_tkR A n p
  unfold sf_kp at q1 q0
  have ki := sf_kyi (A := A) (s := sf_ts A n p) (e := sf_te A n p) (n := 1) (by omega)
  refine sp72_1 h t.1 t.2.2.1 (by rw [t.2.1]; exact tR) (by omega) (fun a b => q1 ?_) (fun a => q0 (fun z => a ?_))
  · rw [t.2.1] at a
    rw [if_pos a]
    exact ki.mp b
  · rw [t.2.1]
    by_cases c : sf_tk A n p = 1
    · rw [if_pos c] at z
      exact ⟨c, ki.mpr z⟩
    · rw [if_neg c] at z; omega
theorem sf_is_2 {N : Nat} {xs : Nat → Int32} {Q : iq_T} {g : iq_I} {l : iq_J} {A : Int → Int} {n p : Int} (h : sf_AB g A n) (hp : 0 ≤ p ∧ p ≤ n) (t : sf_CT g A n p) (q1 : sf_kp A n p = 2 → Q (some (iq_i 1)) g l) (q0 : ¬ sf_kp A n p = 2 → Q (some (iq_i 0)) g l) : iq_P N xs 72 0 [some (iq_r 10), some (iq_r 1000012), none] [] g l Q := by
  have sR := sf_tsR (A := A) hp
  have eR := sf_teR (A := A) hp
  have tR := sf_tkR A n p
  unfold sf_kp at q1 q0
  have ki := sf_kyi (A := A) (s := sf_ts A n p) (e := sf_te A n p) (n := 2) (by omega)
  refine sp72_2 h t.1 t.2.2.1 (by rw [t.2.1]; exact tR) (by omega) (fun a b => q1 ?_) (fun a => q0 (fun z => a ?_))
  · rw [t.2.1] at a
    rw [if_pos a]
    exact ki.mp b
  · rw [t.2.1]
    by_cases c : sf_tk A n p = 1
    · rw [if_pos c] at z
      exact ⟨c, ki.mpr z⟩
    · rw [if_neg c] at z; omega
theorem sf_is_3 {N : Nat} {xs : Nat → Int32} {Q : iq_T} {g : iq_I} {l : iq_J} {A : Int → Int} {n p : Int} (h : sf_AB g A n) (hp : 0 ≤ p ∧ p ≤ n) (t : sf_CT g A n p) (q1 : sf_kp A n p = 3 → Q (some (iq_i 1)) g l) (q0 : ¬ sf_kp A n p = 3 → Q (some (iq_i 0)) g l) : iq_P N xs 72 0 [some (iq_r 10), some (iq_r 1000013), none] [] g l Q := by
  have sR := sf_tsR (A := A) hp
  have eR := sf_teR (A := A) hp
  have tR := sf_tkR A n p
  unfold sf_kp at q1 q0
  have ki := sf_kyi (A := A) (s := sf_ts A n p) (e := sf_te A n p) (n := 3) (by omega)
  refine sp72_3 h t.1 t.2.2.1 (by rw [t.2.1]; exact tR) (by omega) (fun a b => q1 ?_) (fun a => q0 (fun z => a ?_))
  · rw [t.2.1] at a
    rw [if_pos a]
    exact ki.mp b
  · rw [t.2.1]
    by_cases c : sf_tk A n p = 1
    · rw [if_pos c] at z
      exact ⟨c, ki.mpr z⟩
    · rw [if_neg c] at z; omega
theorem sf_is_4 {N : Nat} {xs : Nat → Int32} {Q : iq_T} {g : iq_I} {l : iq_J} {A : Int → Int} {n p : Int} (h : sf_AB g A n) (hp : 0 ≤ p ∧ p ≤ n) (t : sf_CT g A n p) (q1 : sf_kp A n p = 4 → Q (some (iq_i 1)) g l) (q0 : ¬ sf_kp A n p = 4 → Q (some (iq_i 0)) g l) : iq_P N xs 72 0 [some (iq_r 10), some (iq_r 1000014), none] [] g l Q := by
  have sR := sf_tsR (A := A) hp
  have eR := sf_teR (A := A) hp
  have tR := sf_tkR A n p
  unfold sf_kp at q1 q0
  have ki := sf_kyi (A := A) (s := sf_ts A n p) (e := sf_te A n p) (n := 4) (by omega)
  refine sp72_4 h t.1 t.2.2.1 (by rw [t.2.1]; exact tR) (by omega) (fun a b => q1 ?_) (fun a => q0 (fun z => a ?_))
  · rw [t.2.1] at a
    rw [if_pos a]
    exact ki.mp b
  · rw [t.2.1]
    by_cases c : sf_tk A n p = 1
    · rw [if_pos c] at z
      exact ⟨c, ki.mpr z⟩
    · rw [if_neg c] at z; omega
theorem sf_is_5 {N : Nat} {xs : Nat → Int32} {Q : iq_T} {g : iq_I} {l : iq_J} {A : Int → Int} {n p : Int} (h : sf_AB g A n) (hp : 0 ≤ p ∧ p ≤ n) (t : sf_CT g A n p) (q1 : sf_kp A n p = 5 → Q (some (iq_i 1)) g l) (q0 : ¬ sf_kp A n p = 5 → Q (some (iq_i 0)) g l) : iq_P N xs 72 0 [some (iq_r 10), some (iq_r 1000015), none] [] g l Q := by
  have sR := sf_tsR (A := A) hp
  have eR := sf_teR (A := A) hp
  have tR := sf_tkR A n p
  unfold sf_kp at q1 q0
  have ki := sf_kyi (A := A) (s := sf_ts A n p) (e := sf_te A n p) (n := 5) (by omega)
  refine sp72_5 h t.1 t.2.2.1 (by rw [t.2.1]; exact tR) (by omega) (fun a b => q1 ?_) (fun a => q0 (fun z => a ?_))
  · rw [t.2.1] at a
    rw [if_pos a]
    exact ki.mp b
  · rw [t.2.1]
    by_cases c : sf_tk A n p = 1
    · rw [if_pos c] at z
      exact ⟨c, ki.mpr z⟩
    · rw [if_neg c] at z; omega
theorem sf_is_6 {N : Nat} {xs : Nat → Int32} {Q : iq_T} {g : iq_I} {l : iq_J} {A : Int → Int} {n p : Int} (h : sf_AB g A n) (hp : 0 ≤ p ∧ p ≤ n) (t : sf_CT g A n p) (q1 : sf_kp A n p = 6 → Q (some (iq_i 1)) g l) (q0 : ¬ sf_kp A n p = 6 → Q (some (iq_i 0)) g l) : iq_P N xs 72 0 [some (iq_r 10), some (iq_r 1000016), none] [] g l Q := by
  have sR := sf_tsR (A := A) hp
  have eR := sf_teR (A := A) hp
  have tR := sf_tkR A n p
  unfold sf_kp at q1 q0
  have ki := sf_kyi (A := A) (s := sf_ts A n p) (e := sf_te A n p) (n := 6) (by omega)
  refine sp72_6 h t.1 t.2.2.1 (by rw [t.2.1]; exact tR) (by omega) (fun a b => q1 ?_) (fun a => q0 (fun z => a ?_))
  · rw [t.2.1] at a
    rw [if_pos a]
    exact ki.mp b
  · rw [t.2.1]
    by_cases c : sf_tk A n p = 1
    · rw [if_pos c] at z
      exact ⟨c, ki.mpr z⟩
    · rw [if_neg c] at z; omega
theorem sf_is_7 {N : Nat} {xs : Nat → Int32} {Q : iq_T} {g : iq_I} {l : iq_J} {A : Int → Int} {n p : Int} (h : sf_AB g A n) (hp : 0 ≤ p ∧ p ≤ n) (t : sf_CT g A n p) (q1 : sf_kp A n p = 7 → Q (some (iq_i 1)) g l) (q0 : ¬ sf_kp A n p = 7 → Q (some (iq_i 0)) g l) : iq_P N xs 72 0 [some (iq_r 10), some (iq_r 1000017), none] [] g l Q := by
  have sR := sf_tsR (A := A) hp
  have eR := sf_teR (A := A) hp
  have tR := sf_tkR A n p
  unfold sf_kp at q1 q0
  have ki := sf_kyi (A := A) (s := sf_ts A n p) (e := sf_te A n p) (n := 7) (by omega)
  refine sp72_7 h t.1 t.2.2.1 (by rw [t.2.1]; exact tR) (by omega) (fun a b => q1 ?_) (fun a => q0 (fun z => a ?_))
  · rw [t.2.1] at a
    rw [if_pos a]
    exact ki.mp b
  · rw [t.2.1]
    by_cases c : sf_tk A n p = 1
    · rw [if_pos c] at z
      exact ⟨c, ki.mpr z⟩
    · rw [if_neg c] at z; omega
theorem sf_is_8 {N : Nat} {xs : Nat → Int32} {Q : iq_T} {g : iq_I} {l : iq_J} {A : Int → Int} {n p : Int} (h : sf_AB g A n) (hp : 0 ≤ p ∧ p ≤ n) (t : sf_CT g A n p) (q1 : sf_kp A n p = 8 → Q (some (iq_i 1)) g l) (q0 : ¬ sf_kp A n p = 8 → Q (some (iq_i 0)) g l) : iq_P N xs 72 0 [some (iq_r 10), some (iq_r 1000018), none] [] g l Q := by
  have sR := sf_tsR (A := A) hp
  have eR := sf_teR (A := A) hp
  have tR := sf_tkR A n p
  unfold sf_kp at q1 q0
  have ki := sf_kyi (A := A) (s := sf_ts A n p) (e := sf_te A n p) (n := 8) (by omega)
  refine sp72_8 h t.1 t.2.2.1 (by rw [t.2.1]; exact tR) (by omega) (fun a b => q1 ?_) (fun a => q0 (fun z => a ?_))
  · rw [t.2.1] at a
    rw [if_pos a]
    exact ki.mp b
  · rw [t.2.1]
    by_cases c : sf_tk A n p = 1
    · rw [if_pos c] at z
      exact ⟨c, ki.mpr z⟩
    · rw [if_neg c] at z; omega
theorem sf_is_9 {N : Nat} {xs : Nat → Int32} {Q : iq_T} {g : iq_I} {l : iq_J} {A : Int → Int} {n p : Int} (h : sf_AB g A n) (hp : 0 ≤ p ∧ p ≤ n) (t : sf_CT g A n p) (q1 : sf_kp A n p = 9 → Q (some (iq_i 1)) g l) (q0 : ¬ sf_kp A n p = 9 → Q (some (iq_i 0)) g l) : iq_P N xs 72 0 [some (iq_r 10), some (iq_r 1000019), none] [] g l Q := by
  have sR := sf_tsR (A := A) hp
  have eR := sf_teR (A := A) hp
  have tR := sf_tkR A n p
  unfold sf_kp at q1 q0
  have ki := sf_kyi (A := A) (s := sf_ts A n p) (e := sf_te A n p) (n := 9) (by omega)
  refine sp72_9 h t.1 t.2.2.1 (by rw [t.2.1]; exact tR) (by omega) (fun a b => q1 ?_) (fun a => q0 (fun z => a ?_))
  · rw [t.2.1] at a
    rw [if_pos a]
    exact ki.mp b
  · rw [t.2.1]
    by_cases c : sf_tk A n p = 1
    · rw [if_pos c] at z
      exact ⟨c, ki.mpr z⟩
    · rw [if_neg c] at z; omega
theorem sf_is_10 {N : Nat} {xs : Nat → Int32} {Q : iq_T} {g : iq_I} {l : iq_J} {A : Int → Int} {n p : Int} (h : sf_AB g A n) (hp : 0 ≤ p ∧ p ≤ n) (t : sf_CT g A n p) (q1 : sf_kp A n p = 17 → Q (some (iq_i 1)) g l) (q0 : ¬ sf_kp A n p = 17 → Q (some (iq_i 0)) g l) : iq_P N xs 72 0 [some (iq_r 10), some (iq_r 1000020), none] [] g l Q := by
  have sR := sf_tsR (A := A) hp
  have eR := sf_teR (A := A) hp
  have tR := sf_tkR A n p
  unfold sf_kp at q1 q0
  have ki := sf_kyi (A := A) (s := sf_ts A n p) (e := sf_te A n p) (n := 17) (by omega)
  refine sp72_10 h t.1 t.2.2.1 (by rw [t.2.1]; exact tR) (by omega) (fun a b => q1 ?_) (fun a => q0 (fun z => a ?_))
  · rw [t.2.1] at a
    rw [if_pos a]
    exact ki.mp b
  · rw [t.2.1]
    by_cases c : sf_tk A n p = 1
    · rw [if_pos c] at z
      exact ⟨c, ki.mpr z⟩
    · rw [if_neg c] at z; omega
theorem sf_is_11 {N : Nat} {xs : Nat → Int32} {Q : iq_T} {g : iq_I} {l : iq_J} {A : Int → Int} {n p : Int} (h : sf_AB g A n) (hp : 0 ≤ p ∧ p ≤ n) (t : sf_CT g A n p) (q1 : sf_kp A n p = 10 → Q (some (iq_i 1)) g l) (q0 : ¬ sf_kp A n p = 10 → Q (some (iq_i 0)) g l) : iq_P N xs 72 0 [some (iq_r 10), some (iq_r 1000021), none] [] g l Q := by
  have sR := sf_tsR (A := A) hp
  have eR := sf_teR (A := A) hp
  have tR := sf_tkR A n p
  unfold sf_kp at q1 q0
  have ki := sf_kyi (A := A) (s := sf_ts A n p) (e := sf_te A n p) (n := 10) (by omega)
  refine sp72_11 h t.1 t.2.2.1 (by rw [t.2.1]; exact tR) (by omega) (fun a b => q1 ?_) (fun a => q0 (fun z => a ?_))
  · rw [t.2.1] at a
    rw [if_pos a]
    exact ki.mp b
  · rw [t.2.1]
    by_cases c : sf_tk A n p = 1
    · rw [if_pos c] at z
      exact ⟨c, ki.mpr z⟩
    · rw [if_neg c] at z; omega
theorem sf_is_12 {N : Nat} {xs : Nat → Int32} {Q : iq_T} {g : iq_I} {l : iq_J} {A : Int → Int} {n p : Int} (h : sf_AB g A n) (hp : 0 ≤ p ∧ p ≤ n) (t : sf_CT g A n p) (q1 : sf_kp A n p = 11 → Q (some (iq_i 1)) g l) (q0 : ¬ sf_kp A n p = 11 → Q (some (iq_i 0)) g l) : iq_P N xs 72 0 [some (iq_r 10), some (iq_r 1000022), none] [] g l Q := by
  have sR := sf_tsR (A := A) hp
  have eR := sf_teR (A := A) hp
  have tR := sf_tkR A n p
  unfold sf_kp at q1 q0
  have ki := sf_kyi (A := A) (s := sf_ts A n p) (e := sf_te A n p) (n := 11) (by omega)
  refine sp72_12 h t.1 t.2.2.1 (by rw [t.2.1]; exact tR) (by omega) (fun a b => q1 ?_) (fun a => q0 (fun z => a ?_))
  · rw [t.2.1] at a
    rw [if_pos a]
    exact ki.mp b
  · rw [t.2.1]
    by_cases c : sf_tk A n p = 1
    · rw [if_pos c] at z
      exact ⟨c, ki.mpr z⟩
    · rw [if_neg c] at z; omega
theorem sf_is_13 {N : Nat} {xs : Nat → Int32} {Q : iq_T} {g : iq_I} {l : iq_J} {A : Int → Int} {n p : Int} (h : sf_AB g A n) (hp : 0 ≤ p ∧ p ≤ n) (t : sf_CT g A n p) (q1 : sf_kp A n p = 5 → Q (some (iq_i 1)) g l) (q0 : ¬ sf_kp A n p = 5 → Q (some (iq_i 0)) g l) : iq_P N xs 72 0 [some (iq_r 10), some (iq_r 1000023), none] [] g l Q := by
  have sR := sf_tsR (A := A) hp
  have eR := sf_teR (A := A) hp
  have tR := sf_tkR A n p
  unfold sf_kp at q1 q0
  have ki := sf_kyi (A := A) (s := sf_ts A n p) (e := sf_te A n p) (n := 5) (by omega)
  refine sp72_13 h t.1 t.2.2.1 (by rw [t.2.1]; exact tR) (by omega) (fun a b => q1 ?_) (fun a => q0 (fun z => a ?_))
  · rw [t.2.1] at a
    rw [if_pos a]
    exact ki.mp b
  · rw [t.2.1]
    by_cases c : sf_tk A n p = 1
    · rw [if_pos c] at z
      exact ⟨c, ki.mpr z⟩
    · rw [if_neg c] at z; omega
theorem sf_is_14 {N : Nat} {xs : Nat → Int32} {Q : iq_T} {g : iq_I} {l : iq_J} {A : Int → Int} {n p : Int} (h : sf_AB g A n) (hp : 0 ≤ p ∧ p ≤ n) (t : sf_CT g A n p) (q1 : sf_kp A n p = 14 → Q (some (iq_i 1)) g l) (q0 : ¬ sf_kp A n p = 14 → Q (some (iq_i 0)) g l) : iq_P N xs 72 0 [some (iq_r 10), some (iq_r 1000024), none] [] g l Q := by
  have sR := sf_tsR (A := A) hp
  have eR := sf_teR (A := A) hp
  have tR := sf_tkR A n p
  unfold sf_kp at q1 q0
  have ki := sf_kyi (A := A) (s := sf_ts A n p) (e := sf_te A n p) (n := 14) (by omega)
  refine sp72_14 h t.1 t.2.2.1 (by rw [t.2.1]; exact tR) (by omega) (fun a b => q1 ?_) (fun a => q0 (fun z => a ?_))
  · rw [t.2.1] at a
    rw [if_pos a]
    exact ki.mp b
  · rw [t.2.1]
    by_cases c : sf_tk A n p = 1
    · rw [if_pos c] at z
      exact ⟨c, ki.mpr z⟩
    · rw [if_neg c] at z; omega
theorem sf_is_15 {N : Nat} {xs : Nat → Int32} {Q : iq_T} {g : iq_I} {l : iq_J} {A : Int → Int} {n p : Int} (h : sf_AB g A n) (hp : 0 ≤ p ∧ p ≤ n) (t : sf_CT g A n p) (q1 : sf_kp A n p = 12 → Q (some (iq_i 1)) g l) (q0 : ¬ sf_kp A n p = 12 → Q (some (iq_i 0)) g l) : iq_P N xs 72 0 [some (iq_r 10), some (iq_r 1000025), none] [] g l Q := by
  have sR := sf_tsR (A := A) hp
  have eR := sf_teR (A := A) hp
  have tR := sf_tkR A n p
  unfold sf_kp at q1 q0
  have ki := sf_kyi (A := A) (s := sf_ts A n p) (e := sf_te A n p) (n := 12) (by omega)
  refine sp72_15 h t.1 t.2.2.1 (by rw [t.2.1]; exact tR) (by omega) (fun a b => q1 ?_) (fun a => q0 (fun z => a ?_))
  · rw [t.2.1] at a
    rw [if_pos a]
    exact ki.mp b
  · rw [t.2.1]
    by_cases c : sf_tk A n p = 1
    · rw [if_pos c] at z
      exact ⟨c, ki.mpr z⟩
    · rw [if_neg c] at z; omega
theorem sf_is_16 {N : Nat} {xs : Nat → Int32} {Q : iq_T} {g : iq_I} {l : iq_J} {A : Int → Int} {n p : Int} (h : sf_AB g A n) (hp : 0 ≤ p ∧ p ≤ n) (t : sf_CT g A n p) (q1 : sf_kp A n p = 15 → Q (some (iq_i 1)) g l) (q0 : ¬ sf_kp A n p = 15 → Q (some (iq_i 0)) g l) : iq_P N xs 72 0 [some (iq_r 10), some (iq_r 1000026), none] [] g l Q := by
  have sR := sf_tsR (A := A) hp
  have eR := sf_teR (A := A) hp
  have tR := sf_tkR A n p
  unfold sf_kp at q1 q0
  have ki := sf_kyi (A := A) (s := sf_ts A n p) (e := sf_te A n p) (n := 15) (by omega)
  refine sp72_16 h t.1 t.2.2.1 (by rw [t.2.1]; exact tR) (by omega) (fun a b => q1 ?_) (fun a => q0 (fun z => a ?_))
  · rw [t.2.1] at a
    rw [if_pos a]
    exact ki.mp b
  · rw [t.2.1]
    by_cases c : sf_tk A n p = 1
    · rw [if_pos c] at z
      exact ⟨c, ki.mpr z⟩
    · rw [if_neg c] at z; omega
theorem sf_is_17 {N : Nat} {xs : Nat → Int32} {Q : iq_T} {g : iq_I} {l : iq_J} {A : Int → Int} {n p : Int} (h : sf_AB g A n) (hp : 0 ≤ p ∧ p ≤ n) (t : sf_CT g A n p) (q1 : sf_kp A n p = 16 → Q (some (iq_i 1)) g l) (q0 : ¬ sf_kp A n p = 16 → Q (some (iq_i 0)) g l) : iq_P N xs 72 0 [some (iq_r 10), some (iq_r 1000027), none] [] g l Q := by
  have sR := sf_tsR (A := A) hp
  have eR := sf_teR (A := A) hp
  have tR := sf_tkR A n p
  unfold sf_kp at q1 q0
  have ki := sf_kyi (A := A) (s := sf_ts A n p) (e := sf_te A n p) (n := 16) (by omega)
  refine sp72_17 h t.1 t.2.2.1 (by rw [t.2.1]; exact tR) (by omega) (fun a b => q1 ?_) (fun a => q0 (fun z => a ?_))
  · rw [t.2.1] at a
    rw [if_pos a]
    exact ki.mp b
  · rw [t.2.1]
    by_cases c : sf_tk A n p = 1
    · rw [if_pos c] at z
      exact ⟨c, ki.mpr z⟩
    · rw [if_neg c] at z; omega
theorem sf_is_18 {N : Nat} {xs : Nat → Int32} {Q : iq_T} {g : iq_I} {l : iq_J} {A : Int → Int} {n p : Int} (h : sf_AB g A n) (hp : 0 ≤ p ∧ p ≤ n) (t : sf_CT g A n p) (q1 : sf_kp A n p = 13 → Q (some (iq_i 1)) g l) (q0 : ¬ sf_kp A n p = 13 → Q (some (iq_i 0)) g l) : iq_P N xs 72 0 [some (iq_r 10), some (iq_r 1000028), none] [] g l Q := by
  have sR := sf_tsR (A := A) hp
  have eR := sf_teR (A := A) hp
  have tR := sf_tkR A n p
  unfold sf_kp at q1 q0
  have ki := sf_kyi (A := A) (s := sf_ts A n p) (e := sf_te A n p) (n := 13) (by omega)
  refine sp72_18 h t.1 t.2.2.1 (by rw [t.2.1]; exact tR) (by omega) (fun a b => q1 ?_) (fun a => q0 (fun z => a ?_))
  · rw [t.2.1] at a
    rw [if_pos a]
    exact ki.mp b
  · rw [t.2.1]
    by_cases c : sf_tk A n p = 1
    · rw [if_pos c] at z
      exact ⟨c, ki.mpr z⟩
    · rw [if_neg c] at z; omega
theorem sf_is_19 {N : Nat} {xs : Nat → Int32} {Q : iq_T} {g : iq_I} {l : iq_J} {A : Int → Int} {n p : Int} (h : sf_AB g A n) (hp : 0 ≤ p ∧ p ≤ n) (t : sf_CT g A n p) (q1 : sf_kp A n p = 18 → Q (some (iq_i 1)) g l) (q0 : ¬ sf_kp A n p = 18 → Q (some (iq_i 0)) g l) : iq_P N xs 72 0 [some (iq_r 10), some (iq_r 1000029), none] [] g l Q := by
  have sR := sf_tsR (A := A) hp
  have eR := sf_teR (A := A) hp
  have tR := sf_tkR A n p
  unfold sf_kp at q1 q0
  have ki := sf_kyi (A := A) (s := sf_ts A n p) (e := sf_te A n p) (n := 18) (by omega)
  refine sp72_19 h t.1 t.2.2.1 (by rw [t.2.1]; exact tR) (by omega) (fun a b => q1 ?_) (fun a => q0 (fun z => a ?_))
  · rw [t.2.1] at a
    rw [if_pos a]
    exact ki.mp b
  · rw [t.2.1]
    by_cases c : sf_tk A n p = 1
    · rw [if_pos c] at z
      exact ⟨c, ki.mpr z⟩
    · rw [if_neg c] at z; omega
theorem sf_is_20 {N : Nat} {xs : Nat → Int32} {Q : iq_T} {g : iq_I} {l : iq_J} {A : Int → Int} {n p : Int} (h : sf_AB g A n) (hp : 0 ≤ p ∧ p ≤ n) (t : sf_CT g A n p) (q1 : sf_kp A n p = 20 → Q (some (iq_i 1)) g l) (q0 : ¬ sf_kp A n p = 20 → Q (some (iq_i 0)) g l) : iq_P N xs 72 0 [some (iq_r 10), some (iq_r 1000030), none] [] g l Q := by
  have sR := sf_tsR (A := A) hp
  have eR := sf_teR (A := A) hp
  have tR := sf_tkR A n p
  unfold sf_kp at q1 q0
  have ki := sf_kyi (A := A) (s := sf_ts A n p) (e := sf_te A n p) (n := 20) (by omega)
  refine sp72_20 h t.1 t.2.2.1 (by rw [t.2.1]; exact tR) (by omega) (fun a b => q1 ?_) (fun a => q0 (fun z => a ?_))
  · rw [t.2.1] at a
    rw [if_pos a]
    exact ki.mp b
  · rw [t.2.1]
    by_cases c : sf_tk A n p = 1
    · rw [if_pos c] at z
      exact ⟨c, ki.mpr z⟩
    · rw [if_neg c] at z; omega
theorem sf_is_21 {N : Nat} {xs : Nat → Int32} {Q : iq_T} {g : iq_I} {l : iq_J} {A : Int → Int} {n p : Int} (h : sf_AB g A n) (hp : 0 ≤ p ∧ p ≤ n) (t : sf_CT g A n p) (q1 : sf_kp A n p = 9 → Q (some (iq_i 1)) g l) (q0 : ¬ sf_kp A n p = 9 → Q (some (iq_i 0)) g l) : iq_P N xs 72 0 [some (iq_r 10), some (iq_r 1000031), none] [] g l Q := by
  have sR := sf_tsR (A := A) hp
  have eR := sf_teR (A := A) hp
  have tR := sf_tkR A n p
  unfold sf_kp at q1 q0
  have ki := sf_kyi (A := A) (s := sf_ts A n p) (e := sf_te A n p) (n := 9) (by omega)
  refine sp72_21 h t.1 t.2.2.1 (by rw [t.2.1]; exact tR) (by omega) (fun a b => q1 ?_) (fun a => q0 (fun z => a ?_))
  · rw [t.2.1] at a
    rw [if_pos a]
    exact ki.mp b
  · rw [t.2.1]
    by_cases c : sf_tk A n p = 1
    · rw [if_pos c] at z
      exact ⟨c, ki.mpr z⟩
    · rw [if_neg c] at z; omega
theorem sf_is_22 {N : Nat} {xs : Nat → Int32} {Q : iq_T} {g : iq_I} {l : iq_J} {A : Int → Int} {n p : Int} (h : sf_AB g A n) (hp : 0 ≤ p ∧ p ≤ n) (t : sf_CT g A n p) (q1 : sf_kp A n p = 19 → Q (some (iq_i 1)) g l) (q0 : ¬ sf_kp A n p = 19 → Q (some (iq_i 0)) g l) : iq_P N xs 72 0 [some (iq_r 10), some (iq_r 1000032), none] [] g l Q := by
  have sR := sf_tsR (A := A) hp
  have eR := sf_teR (A := A) hp
  have tR := sf_tkR A n p
  unfold sf_kp at q1 q0
  have ki := sf_kyi (A := A) (s := sf_ts A n p) (e := sf_te A n p) (n := 19) (by omega)
  refine sp72_22 h t.1 t.2.2.1 (by rw [t.2.1]; exact tR) (by omega) (fun a b => q1 ?_) (fun a => q0 (fun z => a ?_))
  · rw [t.2.1] at a
    rw [if_pos a]
    exact ki.mp b
  · rw [t.2.1]
    by_cases c : sf_tk A n p = 1
    · rw [if_pos c] at z
      exact ⟨c, ki.mpr z⟩
    · rw [if_neg c] at z; omega
theorem sp73 {N : Nat} {xs : Nat → Int32} {Q : iq_T} {g : iq_I} {l : iq_J} {A : Int → Int} {n p : Int} (h : sf_AB g A n) (hp : 0 ≤ p ∧ p ≤ n) (t : sf_CT g A n p) (q : Q (some (iq_i (if sf_kp A n p ≤ 9 then sf_kp A n p else -1))) g l) : iq_P N xs 73 0 [some (iq_r 12)] [] g l Q := by
  have kR := sf_kpR A n p
  have go : ∀ k : Int, sf_kp A n p = k → 0 ≤ k ∧ k ≤ 9 → Q (some (iq_i k)) g l := fun k e hk => by
    rw [e, if_pos hk.2] at q; exact q
  have no : ¬ (0 ≤ sf_kp A n p ∧ sf_kp A n p ≤ 9) → Q (some (iq_i (-1))) g l := fun c => by
    by_cases d : sf_kp A n p ≤ 9
    · rw [if_pos d, show sf_kp A n p = -1 by omega] at q; exact q
    · rw [if_neg d] at q; exact q
  refine B73_12 _ _ (sf_is_0 h hp t (fun a => ⟨_, rfl, by omega, fun h => by omega, fun _ => go 0 a (by omega)⟩) (fun a0 => ⟨_, rfl, by omega, fun _ => ?_, fun h => absurd rfl h⟩))
  refine sf_is_1 h hp t (fun a => ⟨_, rfl, by omega, fun h => by omega, fun _ => go 1 a (by omega)⟩) (fun a1 => ⟨_, rfl, by omega, fun _ => ?_, fun h => absurd rfl h⟩)
  refine sf_is_2 h hp t (fun a => ⟨_, rfl, by omega, fun h => by omega, fun _ => go 2 a (by omega)⟩) (fun a2 => ⟨_, rfl, by omega, fun _ => ?_, fun h => absurd rfl h⟩)
  refine sf_is_3 h hp t (fun a => ⟨_, rfl, by omega, fun h => by omega, fun _ => go 3 a (by omega)⟩) (fun a3 => ⟨_, rfl, by omega, fun _ => ?_, fun h => absurd rfl h⟩)
  refine sf_is_4 h hp t (fun a => ⟨_, rfl, by omega, fun h => by omega, fun _ => go 4 a (by omega)⟩) (fun a4 => ⟨_, rfl, by omega, fun _ => ?_, fun h => absurd rfl h⟩)
  refine sf_is_5 h hp t (fun a => ⟨_, rfl, by omega, fun h => by omega, fun _ => go 5 a (by omega)⟩) (fun a5 => ⟨_, rfl, by omega, fun _ => ?_, fun h => absurd rfl h⟩)
  refine sf_is_6 h hp t (fun a => ⟨_, rfl, by omega, fun h => by omega, fun _ => B73_p96_12 _ _ (go 6 a (by omega))⟩) (fun a6 => ⟨_, rfl, by omega, fun _ => B73_p99_12 _ _ ?_, fun h => absurd rfl h⟩)
  refine sf_is_7 h hp t (fun a => ⟨_, rfl, by omega, fun h => by omega, fun _ => go 7 a (by omega)⟩) (fun a7 => ⟨_, rfl, by omega, fun _ => ?_, fun h => absurd rfl h⟩)
  refine sf_is_8 h hp t (fun a => ⟨_, rfl, by omega, fun h => by omega, fun _ => go 8 a (by omega)⟩) (fun a8 => ⟨_, rfl, by omega, fun _ => ?_, fun h => absurd rfl h⟩)
  exact sf_is_9 h hp t (fun a => ⟨_, rfl, by omega, fun h => by omega, fun _ => go 9 a (by omega)⟩) (fun a9 => ⟨_, rfl, by omega, fun _ => no (by omega), fun h => absurd rfl h⟩)
