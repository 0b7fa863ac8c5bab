/-! scale in the class: the call. -/
def sf_P0 : Int → Int := fun k => ((ij_sa.getD 0 []).getD (Int.toNat k) 0).toInt
theorem sf_P0v : sf_rv sf_P0 := by unfold sf_rv; decide +kernel
/-- the bytes of the tape -/
def sf_byt (g : iq_I) : Int → Int := fun k => iq_and (g 11 k) 255
/-- what a text of a scale tells -/
def sf_tsc (A : Int → Int) (n : Int) : Int × Int × (Int → Int) × Int64 := sf_prs A n 901 0 sf_P0 0 0
theorem sf_tscV {A : Int → Int} {n : Int} (hA : ∀ k : Int, 0 ≤ k → k < n → 0 ≤ A k ∧ A k ≤ 255) (hn : 0 ≤ n) (h : (sf_tsc A n).1 = 0) (R : Int → Int) : iq_ZV (sf_fold (sf_tsc A n).2.2.1) (sf_tsc A n).2.2.2 0 R := by
  have z := sf_prsV hA 901 0 sf_P0 0 0 (by omega) sf_P0v (fun t ht => by rw [iq_tb_0] at ht; cases ht) (fun _ t => iq_tb_0 t) h
  refine ⟨sf_foldb z.1, fun t ht => ?_, by omega, fun k a b => by omega⟩
  have e : sf_fold (sf_tsc A n).2.2.1 1 = (sf_tsc A n).2.2.1 1 := by unfold sf_fold; rw [if_neg (by decide)]
  rw [e]
  exact z.2 t ht
theorem sf_below {S : Int64} {p : Int} (hp : 0 ≤ p ∧ p < 64) (hS : ∀ t, iq_tb S t = true → t < p) : S &&& (iq_of p - 1) = S := by
  refine iq_tb_ext (fun t h1 h2 => ?_)
  rw [iq_tb_and]
  unfold iq_of
  rw [if_pos hp, iq_tb_below hp.1 hp.2]
  rcases hb : iq_tb S t with _ | _
  · rfl
  · have := hS t hb
    simp; omega
theorem sp86 {N : Nat} {xs : Nat → Int32} {Q : iq_T} {g : iq_I} {l : iq_J} {a : Int} (ha : 0 ≤ a ∧ a ≤ 900) (q1 : (sf_tsc (sf_byt g) a).1 = 0 → ∀ (g' : iq_I) (l' : iq_J), sf_DK (iq_uz g 10 2 a) l g' l' → (∀ k, 0 ≤ k → k < 9 → g' 14 k = sf_fold (sf_tsc (sf_byt g) a).2.2.1 k) → l' 13 3 = (sf_tsc (sf_byt g) a).2.2.2 → (∀ t, iq_tb (l' 13 4) t = iq_f (sf_fold (sf_tsc (sf_byt g) a).2.2.1) t) → g' 13 2 = 0 → g' 10 7 = 0 → g' 10 8 = -1 → Q (some (iq_i 1)) g' l') (q0 : ¬ (sf_tsc (sf_byt g) a).1 = 0 → ∀ (g' : iq_I) (l' : iq_J), sf_DK (iq_uz g 10 2 a) l g' l' → g' 10 7 = (sf_tsc (sf_byt g) a).1 → g' 10 8 = (sf_tsc (sf_byt g) a).2.1 → Q (some (iq_i 0)) g' l') : iq_P N xs 86 0 [some (iq_r 12), some (iq_i a), none] [] g l Q := by
  have hA : ∀ k : Int, 0 ≤ k → k < a → 0 ≤ sf_byt g k ∧ sf_byt g k ≤ 255 := fun k _ _ => sf_255 _
  refine B86_12 _ _ _ (B55_10 _ _ _ ⟨rfl, B2_13 _ _ ⟨by omega, rfl, ?_⟩⟩)
  refine sp86_p (g0 := iq_uz g 10 2 a) (l0 := l) (A := sf_byt g) (n := a) 901 _ _ 0 0 sf_P0 0 0 ⟨⟨fun j y1 y2 y3 => ?_, fun k y => ?_, fun j y1 y2 => ?_⟩, fun k y1 y2 => ?_, by simp [iq_uz], by simp [iq_uz], by simp [iq_uz], by simp [iq_uz, iq_rz], by simp [iq_uz, iq_rz]⟩ ⟨by simp [iq_uz, iq_rz], ha, fun k y1 y2 => ?_⟩ (by simp [iq_uz, iq_rz]) (by omega) (by omega) (by omega) sf_P0v (fun t ht => by rw [iq_tb_0] at ht; cases ht) (fun _ t => iq_tb_0 t) (fun z g' l' b1 b2 b3 b4 b5 b6 b7 => q1 z g' l' b1 b2 ?_ b4 b5 b6 b7) (fun z g' l' b1 b2 b3 => q0 z g' l' b1 b2 b3)
  · rw [sf_uzn _ y2, sf_rzn _ y3, sf_uzn _ y1, sf_uzn _ y1, sf_uzn _ y1, sf_uzn _ y1]
  · have k3 : ¬ k = 3 := by omega
    have k7 : ¬ k = 7 := by omega
    have k8 : ¬ k = 8 := by omega
    rw [sf_uzn _ (by decide), sf_rzn _ (by decide)]
    simp [iq_uz, k3, k7, k8]
  · rw [sf_uzn _ y1, sf_uzn _ y2]
  · rw [sf_uzn _ (by decide)]
    unfold iq_rz
    rw [if_pos rfl]
    unfold iq_cz
    rw [if_pos (by omega)]
    unfold sf_P0
    rw [show 0 + (k - 0) = k by omega]
  · rw [sf_uzn _ (by decide), sf_rzn _ (by decide), sf_uzn _ (by decide), sf_uzn _ (by decide), sf_uzn _ (by decide), sf_uzn _ (by decide)]
    rfl
  · rw [b3]
    have v := sf_prsV hA 901 0 sf_P0 0 0 (by omega) sf_P0v (fun t ht => by rw [iq_tb_0] at ht; cases ht) (fun _ t => iq_tb_0 t) z
    exact sf_below (by have := v.1.2.1; omega) v.2
def iq_Mx : Nat → Int → Bool := fun j k => (decide (23 ≤ j) && decide (j ≤ 25)) || (decide (j = 26) && decide (k = 5)) || (decide (j = 10) && (decide (k = 1) || decide (k = 7) || decide (k = 8)))
theorem sf_DK.km {g g' : iq_I} {l l' : iq_J} {a : Int} (h : sf_DK (iq_uz g 10 2 a) l g' l') : iq_KM iq_Mx g l g' l' := by
  refine ⟨fun j k x y => ⟨?_, ?_⟩, by rw [h.2.2 0 (by decide) (by decide)], by rw [h.2.2 0 (by decide) (by decide)], by rw [h.2.2 77 (by decide) (by decide)], by rw [h.2.2 77 (by decide) (by decide)]⟩
  · by_cases c : j = 10
    · subst c
      have k2 : ¬ k = 2 := fun e => by subst e; simp [iq_sx] at x
      have kk : ¬ (3 ≤ k ∧ k ≤ 8) := fun e => by
        have : k = 3 ∨ k = 4 ∨ k = 5 ∨ k = 6 ∨ k = 7 ∨ k = 8 := by omega
        rcases this with e | e | e | e | e | e <;> subst e <;> simp [iq_sx, iq_Mx] at x y
      rw [h.2.1 k kk]
      simp [iq_uz, k2]
    · rw [h.1 j c (fun e => by subst e; simp [iq_sx] at x) (fun e => by subst e; simp [iq_sx] at x), sf_uzn _ c]
  · rw [h.2.2 j (fun e => by subst e; simp [iq_sx] at x) (fun e => by subst e; simp [iq_sx] at x)]
theorem cScale {N : Nat} {xs : Nat → Int32} {Q : iq_T} {g : iq_I} {l : iq_J} {a : Int} (hf : 0 ≤ g 10 1 ∧ g 10 1 ≤ 900) (ha : -2147483648 ≤ a ∧ a ≤ 2147483647) (q1 : 0 ≤ a ∧ a ≤ g 10 1 → (sf_tsc (sf_byt g) a).1 = 0 → ∀ (g' : iq_I) (l' : iq_J), iq_KM iq_Mx g l g' l' → (∀ R : Int → Int, iq_CZ g' l' 23 24 25 (sf_fold (sf_tsc (sf_byt g) a).2.2.1) (sf_tsc (sf_byt g) a).2.2.2 0 R) → g' 26 5 = 0 → g' 10 1 = 0 → g' 10 7 = 0 → g' 10 8 = -1 → g' 0 0 = 0 → Q (some (iq_i (iq_m (sf_fold (sf_tsc (sf_byt g) a).2.2.1)))) g' l') (q2 : 0 ≤ a ∧ a ≤ g 10 1 → ¬ (sf_tsc (sf_byt g) a).1 = 0 → ∀ (g' : iq_I) (l' : iq_J), iq_KM iq_Mx g l g' l' → (∀ j k, (23 ≤ j ∧ j ≤ 26) → g' j k = g j k ∧ l' j k = l j k) → g' 10 1 = 0 → g' 10 7 = (sf_tsc (sf_byt g) a).1 → g' 10 8 = (sf_tsc (sf_byt g) a).2.1 → g' 0 0 = 9 → Q (some (iq_i (-1))) g' l') (q0 : ¬ (0 ≤ a ∧ a ≤ g 10 1) → Q (some (iq_i (-1))) (iq_uz g 0 0 1) l) : iq_P N xs 91 0 [some (iq_r 0), some (iq_i a), none] [] g l Q := by
  have hA : ∀ k : Int, 0 ≤ k → k < a → 0 ≤ sf_byt g k ∧ sf_byt g k ≤ 255 := fun k _ _ => sf_255 _
  refine B91_0 _ _ _ ⟨by omega, fun c => sp44 ⟨_, rfl, q0 (by omega)⟩, fun c1 => ⟨by omega, fun c2 => ?_, fun c => sp44 ⟨_, rfl, q0 (by omega)⟩⟩⟩
  refine sp86 (by omega) (fun z G L b1 b2 b3 b4 b5 b6 b7 => ⟨_, rfl, by omega, fun _ => B87_23_13 _ _ ⟨by omega, by omega, rfl, sp89_23 ⟨_, rfl, sp90 ⟨_, rfl, ?_⟩⟩⟩, fun h => by omega⟩) (fun z G L b1 b2 b3 => ⟨_, rfl, by omega, fun h => absurd rfl h, fun _ => sp44 ⟨_, rfl, ?_⟩⟩)
  · have zv := fun R => sf_tscV hA c1 z R
    have e4 : (iq_uz (iq_uz L 23 3 (L 13 3)) 23 4 (L 13 4)) 23 4 = L 13 4 := by simp [iq_uz]
    rw [e4, iq_cn_congr (h := iq_f (sf_fold (sf_tsc (sf_byt g) a).2.2.1)) (fun i _ _ => b4 i), iq_fm64 (zv (fun _ => 0)).1]
    refine q1 ⟨c1, c2⟩ z _ _ ?_ (fun R => ⟨zv R, fun k y1 y2 => ?_, ?_, fun t => ?_, ?_, fun k y1 y2 => by omega⟩) ?_ ?_ ?_ ?_ (by simp [iq_uz])
    · have km := sf_DK.km b1
      refine ⟨fun j k x y => ⟨?_, ?_⟩, ?_, ?_, ?_, ?_⟩
      · have z := (km.1 j k x y).1
        have n23 : ¬ j = 23 := fun e => by subst e; simp [iq_Mx] at y
        have n24 : ¬ j = 24 := fun e => by subst e; simp [iq_Mx] at y
        have n25 : ¬ j = 25 := fun e => by subst e; simp [iq_Mx] at y
        have n26 : ¬ (j = 26 ∧ k = 5) := fun e => by obtain ⟨rfl, rfl⟩ := e; simp [iq_Mx] at y
        have n10 : ¬ (j = 10 ∧ k = 1) := fun e => by obtain ⟨rfl, rfl⟩ := e; simp [iq_Mx] at y
        have n0 : ¬ (j = 0 ∧ k = 0) := fun e => by obtain ⟨rfl, rfl⟩ := e; simp [iq_sx] at x
        rw [← z]
        simp [iq_uz, iq_rz, n23, n24, n25, n26, n10, n0]
      · have z := (km.1 j k x y).2
        have n23 : ¬ j = 23 := fun e => by subst e; simp [iq_Mx] at y
        rw [← z]
        simp [iq_uz, n23]
      · rw [← km.2.1]; simp [iq_uz]
      · rw [← km.2.2.1]; simp [iq_uz]
      · rw [← km.2.2.2.1]; simp [iq_uz]
      · rw [← km.2.2.2.2]; simp [iq_uz]
    · rw [← b2 k y1 y2]
      simp [iq_uz, iq_rz, iq_cz, y1, y2]
    · rw [← b3]; simp [iq_uz]
    · rw [← b4 t]; simp [iq_uz]
    · rw [← b5]; simp [iq_uz, iq_rz]
    · simp [iq_uz]
    · simp [iq_uz, iq_rz]
    · rw [← b6]; simp [iq_uz, iq_rz]
    · rw [← b7]; simp [iq_uz, iq_rz]
  · refine q2 ⟨c1, c2⟩ z _ _ (((sf_DK.km b1).uz (.inr (by simp [iq_Mx]))).uz (.inl iq_sx00)) (fun j k hj => ⟨?_, ?_⟩) (by simp [iq_uz]) (by rw [← b2]; simp [iq_uz]) (by rw [← b3]; simp [iq_uz]) (by simp [iq_uz])
    · rw [sf_uzn _ (by omega), sf_uzn _ (by omega), b1.1 j (by omega) (by omega) (by omega), sf_uzn _ (by omega)]
    · rw [b1.2.2 j (by omega) (by omega)]
