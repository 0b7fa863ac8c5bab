/-! mark and undo in the model. -/
/-- a mark's place copied to another -/
def sf_mc (A : Int → Int) (u w : Int) : Int → Int := fun e => if 460 * w ≤ e ∧ e < 460 * w + 460 then A (460 * u + (e - 460 * w)) else A e
theorem sp357_p {N : Nat} {xs : Nat → Int32} {Q : iq_T} {g : iq_I} {l : iq_J} {u w : Int} (hu : 0 ≤ u ∧ u ≤ 3) (hw : 0 ≤ w ∧ w ≤ 3) (hd : ¬ u = w) (q : ∀ g' : iq_I, (∀ j, ¬ j = 78 → g' j = g j) → g' 78 = sf_mc (g 78) u w → Q none g' l) (m : Nat) : ∀ (v : Nat) (g1 : iq_I), v + m = 460 → (∀ j, ¬ j = 78 → g1 j = g j) → (∀ e, g1 78 e = if 460 * w ≤ e ∧ e < 460 * w + v then g 78 (460 * u + (e - 460 * w)) else g 78 e) → iq_P N xs 357 2 [some (iq_r 77), some (iq_i u), some (iq_i w), some (iq_i v)] [] g1 l Q := by
  induction m with
  | zero =>
    intro v g1 h x y
    refine B357_p2_77 _ _ _ _ _ ⟨by omega, fun _ => q g1 x (funext (fun e => ?_)), fun h => by omega⟩
    rw [y e]
    unfold sf_mc
    rw [show (v : Int) = 460 by omega]
  | succ m ih =>
    intro v g1 h x y
    refine B357_p2_77 _ _ _ _ _ ⟨by omega, fun h => by omega, fun _ => ⟨by omega, by omega, ih (v + 1) _ (by omega) (fun j hj => ?_) (fun e => ?_)⟩⟩
    · rw [← x j hj]; funext i; simp [iq_uz, hj]
    · by_cases c : e = 460 * w + v
      · rw [if_pos (by omega), c]
        have z := y (460 * u + v)
        rw [if_neg (by omega)] at z
        rw [show (iq_uz g1 78 (460 * w + v) (g1 78 (460 * u + v))) 78 (460 * w + v) = g1 78 (460 * u + v) by simp [iq_uz], z]
        congr 1
        omega
      · rw [iq_uz78 c, y e]
        by_cases d : 460 * w ≤ e ∧ e < 460 * w + v
        · rw [if_pos d, if_pos (by omega)]
        · rw [if_neg d, if_neg (by omega)]
theorem sp357 {N : Nat} {xs : Nat → Int32} {Q : iq_T} {g : iq_I} {l : iq_J} {u w : Int} (hu : 0 ≤ u ∧ u ≤ 3) (hw : 0 ≤ w ∧ w ≤ 3) (hd : ¬ u = w) (q : ∀ g' : iq_I, (∀ j, ¬ j = 78 → g' j = g j) → g' 78 = sf_mc (g 78) u w → Q none g' l) : iq_P N xs 357 0 [some (iq_r 77), some (iq_i u), some (iq_i w), none] [] g l Q := by
  refine B357_77 _ _ _ _ (sp357_p (g := g) hu hw hd q 460 0 g (by omega) (fun _ _ => rfl) (fun e => ?_))
  rw [if_neg (by omega)]
theorem mMark {N : Nat} {xs : Nat → Int32} {Q : iq_T} {g : iq_I} {l : iq_J} (hm : 0 ≤ g 77 55 ∧ g 77 55 ≤ 3) (q1 : g 77 55 < 3 → ∀ g' : iq_I, (∀ j, ¬ j = 78 → ¬ j = 77 → g' j = g j) → (∀ k, ¬ k = 55 → ¬ k = 1 → g' 77 k = g 77 k) → g' 77 55 = g 77 55 + 1 → g' 78 = sf_mc (g 78) 0 (g 77 55 + 1) → g' 77 1 = 0 → Q (some (iq_i (g 77 55 + 1))) g' l) (q0 : ¬ g 77 55 < 3 → Q (some (iq_i (-1))) (iq_uz g 77 1 4) l) : iq_P N xs 358 0 [some (iq_r 77)] [] g l Q := by
  refine B358_77 _ _ ⟨by omega, fun c => sp357 (by omega) (by omega) (by omega) (fun g1 a b => ⟨rfl, ?_⟩), fun c => sp98 ⟨_, rfl, q0 (by omega)⟩⟩
  have e77 : g1 77 = (iq_uz g 77 55 (g 77 55 + 1)) 77 := a 77 (by decide)
  have e55 : g1 77 55 = g 77 55 + 1 := by rw [e77]; simp [iq_uz]
  have e78 : (iq_uz g 77 55 (g 77 55 + 1)) 78 = g 78 := by funext i; simp [iq_uz]
  rw [e78] at b
  rw [e55]
  refine sp115 ⟨_, rfl, q1 (by omega) _ (fun j x y => ?_) (fun k x y => ?_) ?_ ?_ (by simp [iq_uz])⟩
  · have z := a j x
    rw [show (iq_uz g 77 55 (g 77 55 + 1)) j = g j by funext i; simp [iq_uz, y]] at z
    rw [← z]; funext i; simp [iq_uz, y]
  · have z := congrFun e77 k
    rw [show (iq_uz g 77 55 (g 77 55 + 1)) 77 k = g 77 k by simp [iq_uz, x]] at z
    rw [← z]; simp [iq_uz, y]
  · rw [← e55]; simp [iq_uz]
  · rw [← b]; funext i; simp [iq_uz]
theorem mUndo {N : Nat} {xs : Nat → Int32} {Q : iq_T} {g : iq_I} {l : iq_J} (hm : 0 ≤ g 77 55 ∧ g 77 55 ≤ 3) (q1 : 0 < g 77 55 → ∀ g' : iq_I, (∀ j, ¬ j = 78 → ¬ j = 77 → g' j = g j) → (∀ k, ¬ k = 55 → ¬ k = 1 → g' 77 k = g 77 k) → g' 77 55 = g 77 55 - 1 → g' 78 = sf_mc (g 78) (g 77 55) 0 → g' 77 1 = 0 → Q (some (iq_i (g 77 55 - 1))) g' l) (q0 : ¬ 0 < g 77 55 → Q (some (iq_i (-1))) (iq_uz g 77 1 6) l) : iq_P N xs 360 0 [some (iq_r 77)] [] g l Q := by
  refine B360_77 _ _ ⟨by omega, fun c => sp357 (by omega) (by omega) (by omega) (fun g1 a b => ⟨rfl, ?_⟩), fun c => sp98 ⟨_, rfl, q0 (by omega)⟩⟩
  have e77 : g1 77 = g 77 := a 77 (by decide)
  rw [e77]
  refine sp115 ⟨_, rfl, q1 (by omega) _ (fun j x y => ?_) (fun k x y => ?_) (by simp [iq_uz]) ?_ (by simp [iq_uz])⟩
  · rw [← a j x]; funext i; simp [iq_uz, y]
  · rw [← e77]; simp [iq_uz, x, y]
  · rw [← b]; funext i; simp [iq_uz]
