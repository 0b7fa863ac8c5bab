/-! Studies lived, in the class: the STEPS. -/
theorem sf_uz0 {α : Type} {X : Nat → Int → α} {j : Nat} {i : Int} {v : α} (h : X j i = v) : iq_uz X j i v = X := by
  rw [← h]; exact sf_uzs _ _ _
theorem sf_bx {a b : Bool} (h : a = true ↔ b = true) : a = b := by
  cases a <;> cases b <;> simp_all
theorem sf_fitz {g : iq_I} {l : iq_J} {s p r : Nat} {P : Int → Int} {S : Int64} {m : Int} {R : Int → Int} (h : iq_CZ g l s p r P S m R) : iq_cn (iq_tb (l s 3 &&& l s 4)) 64 = aFit P S := by
  unfold aFit sf_fit
  refine iq_cn_congr (fun i a b => ?_)
  rw [iq_tb_and, h.2.2.1, h.2.2.2.1, Bool.and_comm]
  rfl
theorem sf_mvZ {P : Int → Int} {S : Int64} {m : Int} {R : Int → Int} (h : iq_ZV P S m R) {t : Int} (ht : 0 ≤ t ∧ t < P 1) (P' : Int → Int) (e5 : P' 5 = t) (e : ∀ k, ¬ k = 5 → P' k = P k) : iq_ZV P' S m R := by
  obtain ⟨⟨p0, p1, p2, p3, p4, p5, p6, p7, p8⟩, v2, v3, v4⟩ := h
  have e1 := e 1 (by decide)
  refine ⟨⟨?_, ?_, ?_, ?_, ?_, ?_, ?_, ?_, ?_⟩, fun u hu => by rw [e1]; exact v2 u hu, v3, v4⟩
  · rw [e 0 (by decide)]; exact p0
  · rw [e1]; exact p1
  · rw [e1, e 2 (by decide)]; exact p2
  · rw [e 3 (by decide)]; exact p3
  · rw [e 4 (by decide)]; exact p4
  · rw [e1, e5]; exact ht
  · rw [e 6 (by decide)]; exact p6
  · rw [e1, e 7 (by decide)]; exact p7
  · rw [e1, e 8 (by decide)]; exact p8
theorem sf_dwR (d : Int) : 0 ≤ sf_dw d ∧ sf_dw d < 65536 := by
  unfold sf_dw
  omega
theorem sf_st_40 {N : Nat} {xs : Nat → Int32} {Q : iq_T} {g : iq_I} {l : iq_J} {g0 X : iq_I} {l0 : iq_J} {S : Int64} {t : Int} (h : sf_H 40 23 g0 l0 g l X S) (ht : 0 ≤ t ∧ t ≤ 99) (q1 : sf_can X S t = true → ∀ (g' : iq_I) (l' : iq_J), sf_H 40 23 g0 l0 g' l' (iq_uz (iq_rz X 5 (sf_sh (X 5) t)) 6 0 (min (X 6 0 + 1) 12)) (S ||| iq_of t) → Q (some (iq_i 1)) g' l') (q0 : sf_can X S t = false → Q (some (iq_i 0)) g l) : iq_P N xs 178 0 [some (iq_r 23), some (iq_i t)] [] g l Q := by
  refine sp178_23 h.2.2.2.2.2 (by omega) (fun a b z => q1 ?_ _ _ (h.z_40 (fun j hj => ⟨?_, sf_uzn l (by omega) _ _⟩) z _ (fun j hj => ?_) ?_ ?_ ?_)) (fun a => q0 ?_)
  · unfold sf_can; simp [a.1, a.2, b]
  · rw [sf_uzn _ (by omega), sf_uzn _ (by omega), sf_rzn _ (by omega)]
  · rw [sf_uzn _ (by omega), sf_rzn _ (by omega)]
  · rw [sf_uzn _ (by decide), sf_rzn _ (by decide)]
  · rw [sf_uzn _ (by decide)]; unfold iq_rz; rw [if_pos rfl]
  · simp [iq_uz]
  · rcases hc : sf_can X S t with _ | _
    · rfl
    · unfold sf_can at hc
      simp only [Bool.and_eq_true, decide_eq_true_eq, Bool.not_eq_true'] at hc
      exact absurd hc a
theorem sp323_40 {N : Nat} {xs : Nat → Int32} {Q : iq_T} {g : iq_I} {l : iq_J} {g0 X : iq_I} {l0 : iq_J} {S : Int64} {t : Int} (h : sf_H 40 23 g0 l0 g l X S) (ht : 0 ≤ t ∧ t ≤ 99) (q : ∀ (g' : iq_I) (l' : iq_J), sf_H 40 23 g0 l0 g' l' (sf_sX X S t) (sf_sS X S t) → Q (some (iq_i (if sf_can X S t = true then 1 else 0))) g' l') : iq_P N xs 323 0 [some (iq_r 40), some (iq_i t), none] [] g l Q := by
  unfold sf_sX sf_sS at q
  refine B323_40 _ _ _ (sf_st_40 h ht (fun a g' l' h' => ⟨_, rfl, by omega, fun h => by omega, fun _ => ⟨by omega, fun h => by omega, fun _ => ⟨by omega, ?_⟩⟩⟩) (fun a => ⟨_, rfl, by omega, fun _ => ⟨by omega, fun _ => ⟨by omega, ?_⟩, fun h => by omega⟩, fun h => by omega⟩))
  · rw [if_pos a, if_pos a, if_pos a] at q
    refine q _ _ ?_
    have z := (h'.u0_40 11 (X 0 11 + 1)).u0_40 10 (X 0 10)
    rw [sf_uz0 (X := iq_uz (iq_uz (iq_rz X 5 (sf_sh (X 5) t)) 6 0 (min (X 6 0 + 1) 12)) 0 11 (X 0 11 + 1)) (by simp [iq_uz, iq_rz])] at z
    rw [h'.f_40.1, show (iq_uz (iq_rz X 5 (sf_sh (X 5) t)) 6 0 (min (X 6 0 + 1) 12)) 0 = X 0 by rw [sf_uzn _ (by decide), sf_rzn _ (by decide)], Int.add_zero]
    exact z
  · rw [if_neg (by rw [a]; decide), if_neg (by rw [a]; decide), if_neg (by rw [a]; decide)] at q
    refine q _ _ ?_
    have z := (h.u0_40 11 (X 0 11)).u0_40 10 (X 0 10 + 1)
    rw [sf_uzs] at z
    rw [h.f_40.1, Int.add_zero]
    exact z
theorem sp324_40 {N : Nat} {xs : Nat → Int32} {Q : iq_T} {g : iq_I} {l : iq_J} {g0 X : iq_I} {l0 : iq_J} {S : Int64} {t : Int} (h : sf_H 40 23 g0 l0 g l X S) (ht : 0 ≤ t ∧ t ≤ 99) (q : ∀ (g' : iq_I) (l' : iq_J), sf_H 40 23 g0 l0 g' l' (sf_lX X S t) (sf_rlS S t) → Q none g' l') : iq_P N xs 324 0 [some (iq_r 40), some (iq_i t), none] [] g l Q := by
  unfold sf_lX at q
  refine B324_40 _ _ _ (sf_re_40 h ht (fun a l' h' => ⟨_, rfl, by omega, fun h => by omega, fun _ => ⟨by omega, fun h => by omega, fun _ => ?_⟩⟩) (fun a h' => ⟨_, rfl, by omega, fun _ => ⟨by omega, fun _ => ?_, fun h => by omega⟩, fun h => by omega⟩))
  · rw [if_pos a] at q
    refine q _ _ ?_
    have z := (h'.u0_40 12 (X 0 12 + 1)).u0_40 10 (X 0 10)
    rw [sf_uz0 (X := iq_uz X 0 12 (X 0 12 + 1)) (by simp [iq_uz])] at z
    rw [h'.f_40.1, Int.add_zero]
    exact z
  · rw [if_neg (by rw [a]; decide)] at q
    refine q _ _ ?_
    have z := (h'.u0_40 12 (X 0 12)).u0_40 10 (X 0 10 + 1)
    rw [sf_uzs] at z
    rw [h'.f_40.1, Int.add_zero]
    exact z
theorem sp325_40 {N : Nat} {xs : Nat → Int32} {Q : iq_T} {g : iq_I} {l : iq_J} {g0 X : iq_I} {l0 : iq_J} {S : Int64} {t : Int} (h : sf_H 40 23 g0 l0 g l X S) (ht : 0 ≤ t ∧ t ≤ 99) (q1 : sf_mv X t = true → ∀ (g' : iq_I) (l' : iq_J), sf_H 40 23 g0 l0 g' l' (iq_uz X 4 5 t) S → Q (some (iq_i 1)) g' l') (q0 : sf_mv X t = false → Q (some (iq_i 0)) g l) : iq_P N xs 325 0 [some (iq_r 23), some (iq_i t)] [] g l Q := by
  have hz := h.2.2.2.2.2
  obtain ⟨c0, c1, c2, c3, c4, c5⟩ := hz
  have e1 : g 24 1 = X 4 1 := c1 1 (by omega) (by omega)
  have e5 : g 24 5 = X 4 5 := c1 5 (by omega) (by omega)
  have e2 : g 24 2 = X 4 2 := c1 2 (by omega) (by omega)
  have e3 : g 24 3 = X 4 3 := c1 3 (by omega) (by omega)
  have e4 : g 24 4 = X 4 4 := c1 4 (by omega) (by omega)
  have hpb := c0.1
  obtain ⟨p0, p1, p2, p3, p4, p5, p6, p7, p8⟩ := hpb
  refine B325_23 _ _ _ (sp77_23 (by omega) (by omega) (fun a b => ⟨_, rfl, by omega, fun h => by omega, fun _ => ⟨by omega, fun d => ?_, fun d => q0 ?_⟩⟩) (fun a => ⟨_, rfl, by omega, fun _ => q0 ?_, fun h => by omega⟩))
  · have k4 : ∀ k, ¬ k = 5 → (iq_uz X 4 5 t) 4 k = X 4 k := fun k hk => by simp [iq_uz, hk]
    have k5 : (iq_uz X 4 5 t) 4 5 = t := by simp [iq_uz]
    have n1 : (iq_uz g 24 5 t) 24 1 = X 4 1 := by rw [← e1]; simp [iq_uz]
    have n4 : (iq_uz g 24 5 t) 24 4 = X 4 4 := by rw [← e4]; simp [iq_uz]
    have zv := sf_mvZ c0 ⟨a, by omega⟩ ((iq_uz X 4 5 t) 4) k5 k4
    have cg : ∀ k, 0 ≤ k → k < 9 → (iq_uz g 24 5 t) 24 k = (iq_uz X 4 5 t) 4 k := fun k x y => by
      by_cases hk : k = 5
      · rw [hk, k5]; simp [iq_uz]
      · rw [k4 k hk, ← c1 k x y]; simp [iq_uz, hk]
    refine sp8_23 (iq_pb_congr cg zv.1) (by rw [n1]; omega) (by omega) (by omega) (fun y hy => ⟨_, rfl, q1 ?_ _ _ (h.z_40 (P := (iq_uz X 4 5 t) 4) (R := X 5) (m := X 6 0) (fun j hj => ⟨sf_uzn g (by omega) _ _, sf_uzn l (by omega) _ _⟩) ⟨zv, cg, ?_, fun u => ?_, ?_, fun k x y => ?_⟩ (iq_uz X 4 5 t) (fun j hj => sf_uzn X (by omega) _ _) rfl (sf_uzn X (by decide) _ _) (by simp [iq_uz]))⟩)
    · unfold sf_mv; simp [a, show t < X 4 1 by omega, show ¬ X 4 5 = t by omega]
    · rw [← c2]; simp [iq_uz]
    · rw [n1, n4, e2, e3] at hy
      show iq_tb ((iq_uz l 23 4 y) 23 4) u = _
      rw [show (iq_uz l 23 4 y) 23 4 = y by simp [iq_uz]]
      refine sf_bx ?_
      rw [hy u]
      unfold iq_f
      rw [iq_dgi, k5, k4 1 (by decide), k4 2 (by decide), k4 3 (by decide), k4 4 (by decide), show ((X 4 3).toNat : Int) = X 4 3 by omega]
    · rw [← c4]; simp [iq_uz]
    · rw [← c5 k x y]; simp [iq_uz]
  · unfold sf_mv; simp [show X 4 5 = t by omega]
  · rcases hc : sf_mv X t with _ | _
    · rfl
    · unfold sf_mv at hc
      simp only [Bool.and_eq_true, decide_eq_true_eq] at hc
      omega
theorem sp326_40 {N : Nat} {xs : Nat → Int32} {Q : iq_T} {g : iq_I} {l : iq_J} {g0 X : iq_I} {l0 : iq_J} {S : Int64} {a : Int} (h : sf_H 40 23 g0 l0 g l X S) (hd : 0 ≤ X 0 2 ∧ X 0 2 < 65536) (ha : 0 < a ∧ a ≤ 60) (q : Q (some (iq_i (sf_dw (X 0 2) / 8 % a))) (iq_uz g 40 2 (sf_dw (X 0 2))) l) : iq_P N xs 326 0 [some (iq_r 40), some (iq_i a)] [] g l Q := by
  have hw := sf_dwR (X 0 2)
  refine B326_40 _ _ _ ?_
  rw [h.f_40.1]
  have e1 : Int.tmod (X 0 2 * 3293 + 11527) 65536 = sf_dw (X 0 2) := by
    rw [Int.tmod_eq_emod_of_nonneg (by omega)]
    rfl
  rw [e1]
  have e2 : Int.tdiv (sf_dw (X 0 2)) 8 = sf_dw (X 0 2) / 8 := by
    rw [Int.tdiv_eq_ediv_of_nonneg (by omega)]
  rw [e2, Int.tmod_eq_emod_of_nonneg (by omega)]
  exact ⟨by omega, by omega, fun h => by omega, fun _ => ⟨by omega, by omega, q⟩⟩
theorem sp327_40 {N : Nat} {xs : Nat → Int32} {Q : iq_T} {g : iq_I} {l : iq_J} {g0 X : iq_I} {l0 : iq_J} {S : Int64} (h : sf_H 40 23 g0 l0 g l X S) (hd : 0 ≤ X 0 2 ∧ X 0 2 < 65536) (q : ∀ (g' : iq_I) (l' : iq_J), sf_H 40 23 g0 l0 g' l' (sf_aX X S) (sf_aS X S) → Q none g' l') : iq_P N xs 327 0 [some (iq_r 40), none] [] g l Q := by
  have hz := h.2.2.2.2.2
  have p0 := hz.1.1.1
  have p1 := hz.1.1.2.1
  have e0 : g 24 0 = X 4 0 := hz.2.1 0 (by omega) (by omega)
  have e1 : g 24 1 = X 4 1 := hz.2.1 1 (by omega) (by omega)
  have h1 := h.u0_40 2 (sf_dw (X 0 2))
  have w : (iq_uz X 0 2 (sf_dw (X 0 2))) 0 2 = sf_dw (X 0 2) := by simp [iq_uz]
  have hw := sf_dwR (X 0 2)
  have ht : 0 ≤ sf_at X ∧ sf_at X < X 4 1 := by
    unfold sf_at
    exact ⟨Int.emod_nonneg _ (by omega), Int.emod_lt_of_pos _ (by omega)⟩
  refine B327_40 _ _ (B80_23 _ _ ⟨_, rfl, ?_⟩)
  rw [e1]
  refine sp326_40 h hd (by omega) ⟨_, rfl, sp326_40 h1 (by rw [w]; exact hw) (by omega) ⟨_, rfl, sp135_23 (by omega) ⟨_, rfl, ?_⟩⟩⟩
  rw [w]
  have h2 := h1.u0_40 2 (sf_dw (sf_dw (X 0 2)))
  rw [sf_uzz X] at h2
  rw [show (iq_uz (iq_uz g 40 2 (sf_dw (X 0 2))) 40 2 (sf_dw (sf_dw (X 0 2)))) 24 0 = X 4 0 by rw [← e0]; simp [iq_uz]]
  have hu : 0 ≤ sf_dw (sf_dw (X 0 2)) / 8 % 16 ∧ sf_dw (sf_dw (X 0 2)) / 8 % 16 < 16 := by omega
  unfold sf_aX sf_aS at q
  refine ⟨by omega, fun c => sp323_40 h2 (by unfold sf_at at ht; omega) (fun g' l' h' => ⟨_, rfl, ?_⟩), fun c => sp324_40 h2 (by unfold sf_at at ht; omega) (fun g' l' h' => ⟨rfl, ?_⟩)⟩
  · have n : ¬ sf_an X = true := by unfold sf_an; simp; omega
    rw [if_neg n, if_neg n] at q
    exact q g' l' h'
  · have n : sf_an X = true := by unfold sf_an; simp; omega
    rw [if_pos n, if_pos n] at q
    exact q g' l' h'
theorem sp328_40 {N : Nat} {xs : Nat → Int32} {Q : iq_T} {g : iq_I} {l : iq_J} {g0 X : iq_I} {l0 : iq_J} {S : Int64} {n : Int} {K T M B : Int → Int} {b : Bool} {i s w : Int} (h : sf_H 40 23 g0 l0 g l X S) (p : sf_PG g n K T M B) (hd : 0 ≤ X 0 7 ∧ X 0 7 ≤ 3) (hs : 0 ≤ s ∧ s < 30) (hi : i = if b = true then 1 else 0) (q : ∀ g' : iq_I, sf_H 40 23 g0 l0 g' l (sf_nX B X b s w) S → Q none g' l) : iq_P N xs 328 0 [some (iq_r 40), some (iq_i i), some (iq_i s), some (iq_i w)] [] g l Q := by
  obtain ⟨p1, p2, p3, p4, p5⟩ := p
  subst hi
  unfold sf_nX at q
  refine B328_40 _ _ _ _ _ ?_
  rw [h.f_40.1, p5]
  rcases b with _ | _
  · rw [if_neg (by decide)]
    rw [if_neg (fun z => absurd z.1 (by decide))] at q
    exact ⟨by omega, fun _ => ⟨by omega, q _ (h.u0_40 _ _)⟩, fun h => absurd rfl h⟩
  · rw [if_pos rfl]
    refine ⟨by omega, fun h => by omega, fun _ => ⟨by omega, fun h => by omega, fun _ => ⟨by omega, fun d => ⟨by omega, ?_⟩, fun d => ⟨by omega, by omega, ?_⟩⟩⟩⟩
    · rw [if_neg (by omega)] at q
      exact q _ (h.u0_40 _ _)
    · rw [if_pos ⟨rfl, d⟩] at q
      exact q _ (((h.u1_40 _ _).u2_40 _ _).u0_40 _ _)
theorem sp329_40 {N : Nat} {xs : Nat → Int32} {Q : iq_T} {g : iq_I} {l : iq_J} {g0 X : iq_I} {l0 : iq_J} {S : Int64} {t m : Int} (h : sf_H 40 23 g0 l0 g l X S) (ht : 0 ≤ t ∧ t ≤ 4) (hm : 0 ≤ m ∧ m ≤ 99) (q1 : sf_so X S t m = true → Q (some (iq_i 1)) g l) (q0 : sf_so X S t m = false → Q (some (iq_i 0)) g l) : iq_P N xs 329 0 [some (iq_r 40), some (iq_i t), some (iq_i m)] [] g l Q := by
  have hz := h.2.2.2.2.2
  have hf := sf_fitR (X 4) S (X 4 2) (X 4 5)
  have hF : 0 ≤ aFit (X 4) S ∧ aFit (X 4) S ≤ 64 := hf
  unfold sf_so at q1 q0
  refine B329_40 _ _ _ _ ⟨by omega, ⟨fun c => ?_, fun c => ?_, fun c => ?_, fun c => ?_, trivial⟩, fun c => ?_⟩
  · rw [if_pos c] at q1 q0
    rw [hz.2.2.1]
    exact sp74 (by omega) (fun a => ⟨_, rfl, by omega, q1 a⟩) (fun a => ⟨_, rfl, by omega, q0 a⟩)
  · rw [if_neg (by omega), if_pos c] at q1 q0
    exact sp155_23 (by omega) (fun a => ⟨_, rfl, by omega, q1 (by rw [← hz.2.2.2.1]; exact a)⟩) (fun a => ⟨_, rfl, by omega, q0 (by rw [← hz.2.2.2.1]; exact a)⟩)
  · rw [if_neg (by omega), if_neg (by omega), if_pos c] at q1 q0
    refine sp189_23 ⟨_, rfl, ?_⟩
    rw [sf_fitz hz]
    exact ⟨by omega, fun a => q0 (by simp; omega), fun a => q1 (by simp; omega)⟩
  · rw [if_neg (by omega), if_neg (by omega), if_neg (by omega), if_pos c] at q1 q0
    refine sp189_23 ⟨_, rfl, ?_⟩
    rw [sf_fitz hz]
    exact ⟨by omega, fun a => q0 (by simp; omega), fun a => q1 (by simp; omega)⟩
  · rw [if_neg (by omega), if_neg (by omega), if_neg (by omega), if_neg (by omega)] at q1 q0
    refine sp189_23 ⟨_, rfl, ?_⟩
    rw [sf_fitz hz]
    exact ⟨by omega, fun a => q0 (by simp; omega), fun a => q1 (by simp; omega)⟩
theorem sf_st_47 {N : Nat} {xs : Nat → Int32} {Q : iq_T} {g : iq_I} {l : iq_J} {g0 X : iq_I} {l0 : iq_J} {S : Int64} {t : Int} (h : sf_H 47 44 g0 l0 g l X S) (ht : 0 ≤ t ∧ t ≤ 99) (q1 : sf_can X S t = true → ∀ (g' : iq_I) (l' : iq_J), sf_H 47 44 g0 l0 g' l' (iq_uz (iq_rz X 5 (sf_sh (X 5) t)) 6 0 (min (X 6 0 + 1) 12)) (S ||| iq_of t) → Q (some (iq_i 1)) g' l') (q0 : sf_can X S t = false → Q (some (iq_i 0)) g l) : iq_P N xs 178 0 [some (iq_r 44), some (iq_i t)] [] g l Q := by
  refine sp178_44 h.2.2.2.2.2 (by omega) (fun a b z => q1 ?_ _ _ (h.z_47 (fun j hj => ⟨?_, sf_uzn l (by omega) _ _⟩) z _ (fun j hj => ?_) ?_ ?_ ?_)) (fun a => q0 ?_)
  · unfold sf_can; simp [a.1, a.2, b]
  · rw [sf_uzn _ (by omega), sf_uzn _ (by omega), sf_rzn _ (by omega)]
  · rw [sf_uzn _ (by omega), sf_rzn _ (by omega)]
  · rw [sf_uzn _ (by decide), sf_rzn _ (by decide)]
  · rw [sf_uzn _ (by decide)]; unfold iq_rz; rw [if_pos rfl]
  · simp [iq_uz]
  · rcases hc : sf_can X S t with _ | _
    · rfl
    · unfold sf_can at hc
      simp only [Bool.and_eq_true, decide_eq_true_eq, Bool.not_eq_true'] at hc
      exact absurd hc a
theorem sp323_47 {N : Nat} {xs : Nat → Int32} {Q : iq_T} {g : iq_I} {l : iq_J} {g0 X : iq_I} {l0 : iq_J} {S : Int64} {t : Int} (h : sf_H 47 44 g0 l0 g l X S) (ht : 0 ≤ t ∧ t ≤ 99) (q : ∀ (g' : iq_I) (l' : iq_J), sf_H 47 44 g0 l0 g' l' (sf_sX X S t) (sf_sS X S t) → Q (some (iq_i (if sf_can X S t = true then 1 else 0))) g' l') : iq_P N xs 323 0 [some (iq_r 47), some (iq_i t), none] [] g l Q := by
  unfold sf_sX sf_sS at q
  refine B323_47 _ _ _ (sf_st_47 h ht (fun a g' l' h' => ⟨_, rfl, by omega, fun h => by omega, fun _ => ⟨by omega, fun h => by omega, fun _ => ⟨by omega, ?_⟩⟩⟩) (fun a => ⟨_, rfl, by omega, fun _ => ⟨by omega, fun _ => ⟨by omega, ?_⟩, fun h => by omega⟩, fun h => by omega⟩))
  · rw [if_pos a, if_pos a, if_pos a] at q
    refine q _ _ ?_
    have z := (h'.u0_47 11 (X 0 11 + 1)).u0_47 10 (X 0 10)
    rw [sf_uz0 (X := iq_uz (iq_uz (iq_rz X 5 (sf_sh (X 5) t)) 6 0 (min (X 6 0 + 1) 12)) 0 11 (X 0 11 + 1)) (by simp [iq_uz, iq_rz])] at z
    rw [h'.f_47.1, show (iq_uz (iq_rz X 5 (sf_sh (X 5) t)) 6 0 (min (X 6 0 + 1) 12)) 0 = X 0 by rw [sf_uzn _ (by decide), sf_rzn _ (by decide)], Int.add_zero]
    exact z
  · rw [if_neg (by rw [a]; decide), if_neg (by rw [a]; decide), if_neg (by rw [a]; decide)] at q
    refine q _ _ ?_
    have z := (h.u0_47 11 (X 0 11)).u0_47 10 (X 0 10 + 1)
    rw [sf_uzs] at z
    rw [h.f_47.1, Int.add_zero]
    exact z
theorem sp324_47 {N : Nat} {xs : Nat → Int32} {Q : iq_T} {g : iq_I} {l : iq_J} {g0 X : iq_I} {l0 : iq_J} {S : Int64} {t : Int} (h : sf_H 47 44 g0 l0 g l X S) (ht : 0 ≤ t ∧ t ≤ 99) (q : ∀ (g' : iq_I) (l' : iq_J), sf_H 47 44 g0 l0 g' l' (sf_lX X S t) (sf_rlS S t) → Q none g' l') : iq_P N xs 324 0 [some (iq_r 47), some (iq_i t), none] [] g l Q := by
  unfold sf_lX at q
  refine B324_47 _ _ _ (sf_re_47 h ht (fun a l' h' => ⟨_, rfl, by omega, fun h => by omega, fun _ => ⟨by omega, fun h => by omega, fun _ => ?_⟩⟩) (fun a h' => ⟨_, rfl, by omega, fun _ => ⟨by omega, fun _ => ?_, fun h => by omega⟩, fun h => by omega⟩))
  · rw [if_pos a] at q
    refine q _ _ ?_
    have z := (h'.u0_47 12 (X 0 12 + 1)).u0_47 10 (X 0 10)
    rw [sf_uz0 (X := iq_uz X 0 12 (X 0 12 + 1)) (by simp [iq_uz])] at z
    rw [h'.f_47.1, Int.add_zero]
    exact z
  · rw [if_neg (by rw [a]; decide)] at q
    refine q _ _ ?_
    have z := (h'.u0_47 12 (X 0 12)).u0_47 10 (X 0 10 + 1)
    rw [sf_uzs] at z
    rw [h'.f_47.1, Int.add_zero]
    exact z
theorem sp325_47 {N : Nat} {xs : Nat → Int32} {Q : iq_T} {g : iq_I} {l : iq_J} {g0 X : iq_I} {l0 : iq_J} {S : Int64} {t : Int} (h : sf_H 47 44 g0 l0 g l X S) (ht : 0 ≤ t ∧ t ≤ 99) (q1 : sf_mv X t = true → ∀ (g' : iq_I) (l' : iq_J), sf_H 47 44 g0 l0 g' l' (iq_uz X 4 5 t) S → Q (some (iq_i 1)) g' l') (q0 : sf_mv X t = false → Q (some (iq_i 0)) g l) : iq_P N xs 325 0 [some (iq_r 44), some (iq_i t)] [] g l Q := by
  have hz := h.2.2.2.2.2
  obtain ⟨c0, c1, c2, c3, c4, c5⟩ := hz
  have e1 : g 45 1 = X 4 1 := c1 1 (by omega) (by omega)
  have e5 : g 45 5 = X 4 5 := c1 5 (by omega) (by omega)
  have e2 : g 45 2 = X 4 2 := c1 2 (by omega) (by omega)
  have e3 : g 45 3 = X 4 3 := c1 3 (by omega) (by omega)
  have e4 : g 45 4 = X 4 4 := c1 4 (by omega) (by omega)
  have hpb := c0.1
  obtain ⟨p0, p1, p2, p3, p4, p5, p6, p7, p8⟩ := hpb
  refine B325_44 _ _ _ (sp77_44 (by omega) (by omega) (fun a b => ⟨_, rfl, by omega, fun h => by omega, fun _ => ⟨by omega, fun d => ?_, fun d => q0 ?_⟩⟩) (fun a => ⟨_, rfl, by omega, fun _ => q0 ?_, fun h => by omega⟩))
  · have k4 : ∀ k, ¬ k = 5 → (iq_uz X 4 5 t) 4 k = X 4 k := fun k hk => by simp [iq_uz, hk]
    have k5 : (iq_uz X 4 5 t) 4 5 = t := by simp [iq_uz]
    have n1 : (iq_uz g 45 5 t) 45 1 = X 4 1 := by rw [← e1]; simp [iq_uz]
    have n4 : (iq_uz g 45 5 t) 45 4 = X 4 4 := by rw [← e4]; simp [iq_uz]
    have zv := sf_mvZ c0 ⟨a, by omega⟩ ((iq_uz X 4 5 t) 4) k5 k4
    have cg : ∀ k, 0 ≤ k → k < 9 → (iq_uz g 45 5 t) 45 k = (iq_uz X 4 5 t) 4 k := fun k x y => by
      by_cases hk : k = 5
      · rw [hk, k5]; simp [iq_uz]
      · rw [k4 k hk, ← c1 k x y]; simp [iq_uz, hk]
    refine sp8_44 (iq_pb_congr cg zv.1) (by rw [n1]; omega) (by omega) (by omega) (fun y hy => ⟨_, rfl, q1 ?_ _ _ (h.z_47 (P := (iq_uz X 4 5 t) 4) (R := X 5) (m := X 6 0) (fun j hj => ⟨sf_uzn g (by omega) _ _, sf_uzn l (by omega) _ _⟩) ⟨zv, cg, ?_, fun u => ?_, ?_, fun k x y => ?_⟩ (iq_uz X 4 5 t) (fun j hj => sf_uzn X (by omega) _ _) rfl (sf_uzn X (by decide) _ _) (by simp [iq_uz]))⟩)
    · unfold sf_mv; simp [a, show t < X 4 1 by omega, show ¬ X 4 5 = t by omega]
    · rw [← c2]; simp [iq_uz]
    · rw [n1, n4, e2, e3] at hy
      show iq_tb ((iq_uz l 44 4 y) 44 4) u = _
      rw [show (iq_uz l 44 4 y) 44 4 = y by simp [iq_uz]]
      refine sf_bx ?_
      rw [hy u]
      unfold iq_f
      rw [iq_dgi, k5, k4 1 (by decide), k4 2 (by decide), k4 3 (by decide), k4 4 (by decide), show ((X 4 3).toNat : Int) = X 4 3 by omega]
    · rw [← c4]; simp [iq_uz]
    · rw [← c5 k x y]; simp [iq_uz]
  · unfold sf_mv; simp [show X 4 5 = t by omega]
  · rcases hc : sf_mv X t with _ | _
    · rfl
    · unfold sf_mv at hc
      simp only [Bool.and_eq_true, decide_eq_true_eq] at hc
      omega
theorem sp326_47 {N : Nat} {xs : Nat → Int32} {Q : iq_T} {g : iq_I} {l : iq_J} {g0 X : iq_I} {l0 : iq_J} {S : Int64} {a : Int} (h : sf_H 47 44 g0 l0 g l X S) (hd : 0 ≤ X 0 2 ∧ X 0 2 < 65536) (ha : 0 < a ∧ a ≤ 60) (q : Q (some (iq_i (sf_dw (X 0 2) / 8 % a))) (iq_uz g 47 2 (sf_dw (X 0 2))) l) : iq_P N xs 326 0 [some (iq_r 47), some (iq_i a)] [] g l Q := by
  have hw := sf_dwR (X 0 2)
  refine B326_47 _ _ _ ?_
  rw [h.f_47.1]
  have e1 : Int.tmod (X 0 2 * 3293 + 11527) 65536 = sf_dw (X 0 2) := by
    rw [Int.tmod_eq_emod_of_nonneg (by omega)]
    rfl
  rw [e1]
  have e2 : Int.tdiv (sf_dw (X 0 2)) 8 = sf_dw (X 0 2) / 8 := by
    rw [Int.tdiv_eq_ediv_of_nonneg (by omega)]
  rw [e2, Int.tmod_eq_emod_of_nonneg (by omega)]
  exact ⟨by omega, by omega, fun h => by omega, fun _ => ⟨by omega, by omega, q⟩⟩
theorem sp327_47 {N : Nat} {xs : Nat → Int32} {Q : iq_T} {g : iq_I} {l : iq_J} {g0 X : iq_I} {l0 : iq_J} {S : Int64} (h : sf_H 47 44 g0 l0 g l X S) (hd : 0 ≤ X 0 2 ∧ X 0 2 < 65536) (q : ∀ (g' : iq_I) (l' : iq_J), sf_H 47 44 g0 l0 g' l' (sf_aX X S) (sf_aS X S) → Q none g' l') : iq_P N xs 327 0 [some (iq_r 47), none] [] g l Q := by
  have hz := h.2.2.2.2.2
  have p0 := hz.1.1.1
  have p1 := hz.1.1.2.1
  have e0 : g 45 0 = X 4 0 := hz.2.1 0 (by omega) (by omega)
  have e1 : g 45 1 = X 4 1 := hz.2.1 1 (by omega) (by omega)
  have h1 := h.u0_47 2 (sf_dw (X 0 2))
  have w : (iq_uz X 0 2 (sf_dw (X 0 2))) 0 2 = sf_dw (X 0 2) := by simp [iq_uz]
  have hw := sf_dwR (X 0 2)
  have ht : 0 ≤ sf_at X ∧ sf_at X < X 4 1 := by
    unfold sf_at
    exact ⟨Int.emod_nonneg _ (by omega), Int.emod_lt_of_pos _ (by omega)⟩
  refine B327_47 _ _ (B80_44 _ _ ⟨_, rfl, ?_⟩)
  rw [e1]
  refine sp326_47 h hd (by omega) ⟨_, rfl, sp326_47 h1 (by rw [w]; exact hw) (by omega) ⟨_, rfl, sp135_44 (by omega) ⟨_, rfl, ?_⟩⟩⟩
  rw [w]
  have h2 := h1.u0_47 2 (sf_dw (sf_dw (X 0 2)))
  rw [sf_uzz X] at h2
  rw [show (iq_uz (iq_uz g 47 2 (sf_dw (X 0 2))) 47 2 (sf_dw (sf_dw (X 0 2)))) 45 0 = X 4 0 by rw [← e0]; simp [iq_uz]]
  have hu : 0 ≤ sf_dw (sf_dw (X 0 2)) / 8 % 16 ∧ sf_dw (sf_dw (X 0 2)) / 8 % 16 < 16 := by omega
  unfold sf_aX sf_aS at q
  refine ⟨by omega, fun c => sp323_47 h2 (by unfold sf_at at ht; omega) (fun g' l' h' => ⟨_, rfl, ?_⟩), fun c => sp324_47 h2 (by unfold sf_at at ht; omega) (fun g' l' h' => ⟨rfl, ?_⟩)⟩
  · have n : ¬ sf_an X = true := by unfold sf_an; simp; omega
    rw [if_neg n, if_neg n] at q
    exact q g' l' h'
  · have n : sf_an X = true := by unfold sf_an; simp; omega
    rw [if_pos n, if_pos n] at q
    exact q g' l' h'
theorem sp328_47 {N : Nat} {xs : Nat → Int32} {Q : iq_T} {g : iq_I} {l : iq_J} {g0 X : iq_I} {l0 : iq_J} {S : Int64} {n : Int} {K T M B : Int → Int} {b : Bool} {i s w : Int} (h : sf_H 47 44 g0 l0 g l X S) (p : sf_PG g n K T M B) (hd : 0 ≤ X 0 7 ∧ X 0 7 ≤ 3) (hs : 0 ≤ s ∧ s < 30) (hi : i = if b = true then 1 else 0) (q : ∀ g' : iq_I, sf_H 47 44 g0 l0 g' l (sf_nX B X b s w) S → Q none g' l) : iq_P N xs 328 0 [some (iq_r 47), some (iq_i i), some (iq_i s), some (iq_i w)] [] g l Q := by
  obtain ⟨p1, p2, p3, p4, p5⟩ := p
  subst hi
  unfold sf_nX at q
  refine B328_47 _ _ _ _ _ ?_
  rw [h.f_47.1, p5]
  rcases b with _ | _
  · rw [if_neg (by decide)]
    rw [if_neg (fun z => absurd z.1 (by decide))] at q
    exact ⟨by omega, fun _ => ⟨by omega, q _ (h.u0_47 _ _)⟩, fun h => absurd rfl h⟩
  · rw [if_pos rfl]
    refine ⟨by omega, fun h => by omega, fun _ => ⟨by omega, fun h => by omega, fun _ => ⟨by omega, fun d => ⟨by omega, ?_⟩, fun d => ⟨by omega, by omega, ?_⟩⟩⟩⟩
    · rw [if_neg (by omega)] at q
      exact q _ (h.u0_47 _ _)
    · rw [if_pos ⟨rfl, d⟩] at q
      exact q _ (((h.u1_47 _ _).u2_47 _ _).u0_47 _ _)
theorem sp329_47 {N : Nat} {xs : Nat → Int32} {Q : iq_T} {g : iq_I} {l : iq_J} {g0 X : iq_I} {l0 : iq_J} {S : Int64} {t m : Int} (h : sf_H 47 44 g0 l0 g l X S) (ht : 0 ≤ t ∧ t ≤ 4) (hm : 0 ≤ m ∧ m ≤ 99) (q1 : sf_so X S t m = true → Q (some (iq_i 1)) g l) (q0 : sf_so X S t m = false → Q (some (iq_i 0)) g l) : iq_P N xs 329 0 [some (iq_r 47), some (iq_i t), some (iq_i m)] [] g l Q := by
  have hz := h.2.2.2.2.2
  have hf := sf_fitR (X 4) S (X 4 2) (X 4 5)
  have hF : 0 ≤ aFit (X 4) S ∧ aFit (X 4) S ≤ 64 := hf
  unfold sf_so at q1 q0
  refine B329_47 _ _ _ _ ⟨by omega, ⟨fun c => ?_, fun c => ?_, fun c => ?_, fun c => ?_, trivial⟩, fun c => ?_⟩
  · rw [if_pos c] at q1 q0
    rw [hz.2.2.1]
    exact sp74 (by omega) (fun a => ⟨_, rfl, by omega, q1 a⟩) (fun a => ⟨_, rfl, by omega, q0 a⟩)
  · rw [if_neg (by omega), if_pos c] at q1 q0
    exact sp155_44 (by omega) (fun a => ⟨_, rfl, by omega, q1 (by rw [← hz.2.2.2.1]; exact a)⟩) (fun a => ⟨_, rfl, by omega, q0 (by rw [← hz.2.2.2.1]; exact a)⟩)
  · rw [if_neg (by omega), if_neg (by omega), if_pos c] at q1 q0
    refine sp189_44 ⟨_, rfl, ?_⟩
    rw [sf_fitz hz]
    exact ⟨by omega, fun a => q0 (by simp; omega), fun a => q1 (by simp; omega)⟩
  · rw [if_neg (by omega), if_neg (by omega), if_neg (by omega), if_pos c] at q1 q0
    refine sp189_44 ⟨_, rfl, ?_⟩
    rw [sf_fitz hz]
    exact ⟨by omega, fun a => q0 (by simp; omega), fun a => q1 (by simp; omega)⟩
  · rw [if_neg (by omega), if_neg (by omega), if_neg (by omega), if_neg (by omega)] at q1 q0
    refine sp189_44 ⟨_, rfl, ?_⟩
    rw [sf_fitz hz]
    exact ⟨by omega, fun a => q0 (by simp; omega), fun a => q1 (by simp; omega)⟩
