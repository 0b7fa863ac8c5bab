/-! Studies as a text in the model: a statement. -/
def sf_PB (D : Int → Int) (m : Nat) : Prop := sf_c D m ≤ 30 ∧ m + (sf_E D m).length ≤ 2 * sf_c D m ∧ (sf_E D m).length ≤ 3 ∧ ∀ i : Nat, i < m → 0 ≤ D (6 * i) ∧ D (6 * i) ≤ 2000
def sf_TS (g0 g : iq_I) (A : Int → Int) (n x : Int) (D : Int → Int) (m : Nat) : Prop := sf_TK g0 g ∧ sf_MB g A n ∧ sf_MT1 g A n x ∧ (g 78 1850 = m ∧ g 77 20 = (sf_E D m).length ∧ g 77 21 = sf_c D m) ∧ (∀ i : Int, 0 ≤ i → i < 6 * m → g 78 (1932 + i) = D i) ∧ sf_SL (fun o => (o : Int)) (g 84) (sf_E D m) ∧ sf_PB D m ∧ g 77 17 = 0 ∧ g 77 16 = -1
section UR
variable {N : Nat} {xs : Nat → Int32} {Q : iq_T} {g0 g : iq_I} {l : iq_J} {A : Int → Int} {n p x c d : Int} {D W : Int → Int} {m : Nat}
theorem sf_SL_at {F : Nat → Int} {G : Int → Int} {l : List Nat} (h : sf_SL F G l) : ∀ (u : List Nat) (o : Nat) (s : List Nat), l = u ++ o :: s → G s.length = F o := by
  induction l with
  | nil => intro u o s e; cases u <;> cases e
  | cons a r ih =>
    intro u o s e
    cases u with
    | nil =>
      injection e with e1 e2
      subst e1; subst e2
      exact h.1
    | cons b u =>
      injection e with e1 e2
      exact ih h.2 u o s e2
theorem sp130 (hT : sf_TI g0 g A n (sf_te A n p) D m c d (fun f => if f = 0 then sf_kp A n p else 0)) (hp : 0 ≤ p ∧ p ≤ n) (hm : m < 60) (kk : sf_kp A n p = 5 ∨ (10 ≤ sf_kp A n p ∧ sf_kp A n p ≤ 18)) {dd cc : Nat} (hf : sf_hf A n p dd cc = 0) (q1 : (sf_kp A n p = 15 → sf_qf A n (sf_te A n p) = 0) → (sf_hn (sf_kp A n p) = true → sf_num A n (sf_np A n p) (sf_l2 (sf_kp A n p)) (sf_h2 A n p) = 0) → ∀ g' : iq_I, sf_TI g0 g' A n (sf_sq A n p) D m c d (sf_rw0 A n p D m) → Q (some (iq_i 1)) g' l) (q0 : ¬ (sf_sf A n p dd cc).1 = 0 → ∀ g' : iq_I, sf_TK g0 g' → g' 77 17 = (sf_sf A n p dd cc).1 → g' 77 16 = (sf_sf A n p dd cc).2 → Q (some (iq_i 0)) g' l) : iq_P N xs 130 0 [some (iq_r 77), some (iq_i (sf_kp A n p)), some (iq_i (1932 + 6 * m))] [] g l Q := by
  have tR := sf_teR (A := A) hp
  have sR := sf_tsR (A := A) hp
  have hq : 0 ≤ sf_te A n p ∧ sf_te A n p ≤ n := by omega
  have none' : sf_hn (sf_kp A n p) = false → ¬ sf_kp A n p = 15 → Q (some (iq_i 1)) g l := by
    intro b k15
    have esq : sf_sq A n p = sf_te A n p := by unfold sf_sq; rw [b]; rfl
    refine q1 (fun z => absurd z k15) (fun z => by rw [b] at z; cases z) g ?_
    rw [esq]
    refine hT.w (fun f f1 f2 => ?_)
    unfold sf_rw0 sf_rwf
    rw [b]
    have : f = 0 ∨ f = 1 ∨ f = 2 ∨ f = 3 ∨ f = 4 ∨ f = 5 := by omega
    rcases this with e | e | e | e | e | e <;> subst e <;> simp [k15]
  have num' : ∀ lo hi : Int, lo = sf_l2 (sf_kp A n p) → hi = sf_h2 A n p → (0 ≤ lo ∧ lo ≤ 1) → (0 ≤ hi ∧ hi ≤ 99) → sf_hn (sf_kp A n p) = true → ¬ sf_kp A n p = 15 → iq_P N xs 102 0 [some (iq_r 77), some (iq_i (1932 + 6 * m + 1)), some (iq_i lo), some (iq_i hi)] [] g l (fun r g1 l2 => ∃ z3, r = some (iq_i z3) ∧ ((z3 = 0 ∨ z3 = 1) ∧ Q (some (iq_i z3)) g1 l2)) := by
    intro lo hi e1 e2 lR hR b k15
    have enp : sf_np A n p = sf_te A n p := by unfold sf_np; rw [if_neg k15]
    have esq : sf_sq A n p = sf_te A n (sf_te A n p) := by unfold sf_sq; rw [b, if_pos rfl, enp]
    refine sp102r (f := 1) rfl hT hq hm (by omega) lR hR (fun z g' y => q1 (fun z => absurd z k15) (fun _ => by rw [enp, ← e1, ← e2]; exact z) g' ?_) (fun z g' y1 y2 y3 => ?_)
    · rw [esq]
      refine y.w (fun f f1 f2 => ?_)
      unfold sf_rw0 sf_rwf
      rw [b, enp]
      have : f = 0 ∨ f = 1 ∨ f = 2 ∨ f = 3 ∨ f = 4 ∨ f = 5 := by omega
      rcases this with e | e | e | e | e | e <;> subst e <;> simp [k15]
    · have e0 := sf_sf1 hf (fun z => absurd z k15) b (by rw [enp, ← e1, ← e2]; exact z)
      rw [e0, enp, ← e1, ← e2] at q0
      exact q0 z g' y1 y2 y3
  have w16 : sf_kp A n p = 16 → sf_l2 (sf_kp A n p) = 1 ∧ sf_h2 A n p = 99 := fun e => by unfold sf_l2 sf_h2; rw [if_pos e, if_pos e]; exact ⟨rfl, rfl⟩
  have w59 : ¬ sf_kp A n p = 16 → ¬ sf_kp A n p = 15 → sf_l2 (sf_kp A n p) = 0 ∧ sf_h2 A n p = 59 := fun e e' => by unfold sf_l2 sf_h2; rw [if_neg e, if_neg e, if_neg (fun z => e' z.1)]; exact ⟨rfl, rfl⟩
  have n59 : ¬ sf_kp A n p = 16 → ¬ sf_kp A n p = 15 → sf_hn (sf_kp A n p) = true → iq_P N xs 102 0 [some (iq_r 77), some (iq_i (1932 + 6 * m + 1)), some (iq_i 0), some (iq_i 59)] [] g l (fun r g1 l2 => ∃ z3, r = some (iq_i z3) ∧ ((z3 = 0 ∨ z3 = 1) ∧ Q (some (iq_i z3)) g1 l2)) := fun e e' b => num' 0 59 (w59 e e').1.symm (w59 e e').2.symm (by omega) (by omega) b e'
  refine B130_77 _ _ _ _ ⟨by omega, ⟨fun e => n59 (by omega) (by omega) (by rw [e]; decide), fun e => by omega, fun e => by omega, fun e => by omega, fun e => by omega, fun e => n59 (by omega) (by omega) (by rw [e]; decide), fun e => n59 (by omega) (by omega) (by rw [e]; decide), fun e => n59 (by omega) (by omega) (by rw [e]; decide), fun e => none' (by rw [e]; decide) (by omega), fun e => none' (by rw [e]; decide) (by omega), fun e => ?_, fun e => num' 1 99 (w16 e).1.symm (w16 e).2.symm (by omega) (by omega) (by rw [e]; decide) (by omega), trivial⟩, fun e => none' (by rcases (show sf_kp A n p = 17 ∨ sf_kp A n p = 18 by omega) with z | z <;> rw [z] <;> decide) (by omega)⟩
  have el : sf_l2 (sf_kp A n p) = 0 := by unfold sf_l2; rw [if_neg (by omega)]
  have b : sf_hn (sf_kp A n p) = true := by rw [e]; decide
  refine sp129 hT hp hm e (fun z1 z2 g' y => ⟨_, rfl, .inr rfl, q1 (fun _ => z1) (fun _ => by rw [el]; exact z2) g' y⟩) (fun g' u v h y1 y2 y3 => ⟨_, rfl, .inl rfl, ?_⟩)
  rcases h with ⟨h1, h2, h3⟩ | ⟨h1, h2, h3, h4⟩
  · have e0 := sf_sf2 hf e h1
    rw [e0] at q0
    exact q0 h1 g' y1 (by rw [y2, h2]) (by rw [y3, h3])
  · have e0 := sf_sf1 hf (fun _ => h1) b (by rw [el]; exact h2)
    rw [e0, el] at q0
    exact q0 h2 g' y1 (by rw [y2, h3]) (by rw [y3, h4])
/-- where the statement has ended, or not -/
theorem sp131_e {H : iq_I} {v1 v2 v3 v4 v5 v6 : Int} {dd cc : Nat} (hB : sf_MB H A n) (hM : sf_MT1 H A n (sf_sq A n p)) (h17 : H 77 17 = 0) (hp : 0 ≤ p ∧ p ≤ n) (hf : sf_hf A n p dd cc = 0) (hw : sf_kp A n p = 15 → sf_qf A n (sf_te A n p) = 0) (hn : sf_hn (sf_kp A n p) = true → sf_num A n (sf_np A n p) (sf_l2 (sf_kp A n p)) (sf_h2 A n p) = 0) (hK : sf_TK g0 H) (q1 : (sf_sf A n p dd cc).1 = 0 → ∀ g' : iq_I, sf_AK H g' → sf_MT1 g' A n (sf_ep A n p) → Q (some (iq_i 1)) g' l) (q0 : ¬ (sf_sf A n p dd cc).1 = 0 → ∀ g' : iq_I, sf_TK g0 g' → g' 77 17 = (sf_sf A n p dd cc).1 → g' 77 16 = (sf_sf A n p dd cc).2 → Q (some (iq_i 0)) g' l) : iq_P N xs 131 380 [some (iq_r 77), some (iq_i v1), some (iq_i v2), some (iq_i v3), some (iq_i v4), some (iq_i v5), some (iq_i v6)] [] H l Q := by
  have sqR := sf_sqR (A := A) hp
  have e0 := sf_sf0 hf hw hn
  rw [e0] at q1 q0
  exact B131_p380_77 _ _ _ _ _ _ _ _ (sp105 hB (by omega) hM h17 (fun z g' k t => ⟨_, rfl, .inr rfl, q1 z g' k t⟩) (fun z g' k y1 y2 => ⟨_, rfl, .inl rfl, q0 z g' (hK.fk k) y1 y2⟩))
/-- the hold that a leave leaves -/
theorem sp131_l {v2 v4 v5 : Int} (h13 : v4 = 0) (hm : m < 60) (dR : (sf_E D m).length ≤ 3) (hD : ∀ i : Nat, i < m → 0 ≤ D (6 * i) ∧ D (6 * i) ≤ 2000) (q : ∀ G : iq_I, sf_TI g0 G A n x D m c (sf_E D m).length (fun f => if f = 4 then sf_fh D (sf_E D m) else W f) → ∀ v6 : Int, iq_P N xs 131 380 [some (iq_r 77), some (iq_i 13), some (iq_i v2), some (iq_i (1932 + 6 * m)), some (iq_i v4), some (iq_i v5), some (iq_i v6)] [] G l Q) (u : List Nat) : ∀ (s : List Nat) (G : iq_I), sf_E D m = u.reverse ++ s → sf_TI g0 G A n x D m c (sf_E D m).length (fun f => if f = 4 then sf_fh D s else W f) → iq_P N xs 131 238 [some (iq_r 77), some (iq_i 13), some (iq_i v2), some (iq_i (1932 + 6 * m)), some (iq_i v4), some (iq_i v5), some (iq_i s.length)] [] G l Q := by
  induction u with
  | nil =>
    intro s G e hT
    have es : sf_E D m = s := by rw [e]; rfl
    have d20 : G 77 20 = (sf_E D m).length := hT.2.2.2.1.2.1
    refine B131_p238_77 _ _ _ _ _ _ _ _ ?_
    rw [d20]
    have : (sf_E D m).length = s.length := by rw [es]
    refine ⟨by omega, fun _ => ⟨by omega, fun _ => ⟨by omega, fun _ => q G (by rw [es]; rw [es] at hT; exact hT) _, fun h => by omega⟩, fun h => absurd h13 h⟩, fun h => by omega⟩
  | cons o u ih =>
    intro s G e hT
    have e' : sf_E D m = u.reverse ++ o :: s := by rw [e, List.reverse_cons, List.append_assoc]; rfl
    have d20 : G 77 20 = (sf_E D m).length := hT.2.2.2.1.2.1
    have ln : (sf_E D m).length = u.length + (s.length + 1) := by rw [e', List.length_append, List.length_reverse, List.length_cons]
    have om := sf_E_lt D m o (by rw [e']; exact List.mem_append_right _ List.mem_cons_self)
    have e84 : G 84 s.length = o := sf_SL_at hT.2.2.2.2.2.2.1 _ o s e'
    have eD : G 78 (1932 + 6 * o) = D (6 * o) := hT.2.2.2.2.1 (6 * o) (by omega) (by omega)
    have oR : -2147483648 ≤ D (6 * o) ∧ D (6 * o) ≤ 2147483647 := by have := hD o om; omega
    refine B131_p238_77 _ _ _ _ _ _ _ _ ?_
    rw [d20, e84, eD]
    refine ⟨by omega, fun h => by omega, fun _ => ⟨by omega, fun h => absurd rfl h, fun _ => ⟨by omega, by omega, oR, fun h => ?_, fun h => ⟨by omega, by omega, ?_⟩⟩⟩⟩
    · have z := ih (o :: s) G e' (hT.w (fun f f1 f2 => by rw [sf_fh, if_neg h]))
      rw [show (((o :: s).length : Nat) : Int) = (s.length : Int) + 1 by rw [List.length_cons]; rfl] at z
      exact z
    · have z := ih (o :: s) _ e' ((hT.up (f := 4) (v := o) (by omega)).w (fun f f1 f2 => by rw [sf_fh, if_pos h]; by_cases y : f = 4 <;> simp [y]))
      rw [show (((o :: s).length : Nat) : Int) = (s.length : Int) + 1 by rw [List.length_cons]; rfl] at z
      exact z
end UR
