/-! Studies as a text in the class: words, signs, what a when asks for. -/
theorem sp120 {N : Nat} {xs : Nat → Int32} {Q : iq_T} {g : iq_I} {l : iq_J} {A : Int → Int} {n p : Int} (h : sf_AB g A n) (hp : 0 ≤ p ∧ p ≤ n) (t : sf_CT g A n p) (q : Q (some (iq_i (sf_ck (sf_kp A n p)))) g l) : iq_P N xs 120 0 [some (iq_r 16)] [] g l Q := by
  refine B120_16 _ _ (sf_is_11 h hp t (fun e => ⟨_, rfl, by omega, fun x => by omega, fun _ => ?_⟩) (fun e1 => ⟨_, rfl, by omega, fun _ => ?_, fun x => absurd rfl x⟩))
  · rw [sf_ck, if_pos e] at q; exact q
  refine sf_is_12 h hp t (fun e => ⟨_, rfl, by omega, fun x => by omega, fun _ => ?_⟩) (fun e2 => ⟨_, rfl, by omega, fun _ => ?_, fun x => absurd rfl x⟩)
  · rw [sf_ck, if_neg e1, if_pos e] at q; exact q
  refine sf_is_13 h hp t (fun e => ⟨_, rfl, by omega, fun x => by omega, fun _ => ?_⟩) (fun e3 => ⟨_, rfl, by omega, fun _ => ?_, fun x => absurd rfl x⟩)
  · rw [sf_ck, if_neg e1, if_neg e2, if_pos e] at q; exact q
  refine sf_is_14 h hp t (fun e => ⟨_, rfl, by omega, fun x => by omega, fun _ => ?_⟩) (fun e4 => ⟨_, rfl, by omega, fun _ => ?_, fun x => absurd rfl x⟩)
  · rw [sf_ck, if_neg e1, if_neg e2, if_neg e3, if_pos e] at q; exact q
  refine sf_is_15 h hp t (fun e => ⟨_, rfl, by omega, fun x => by omega, fun _ => ?_⟩) (fun e5 => ⟨_, rfl, by omega, fun _ => ?_, fun x => absurd rfl x⟩)
  · rw [sf_ck, if_neg e1, if_neg e2, if_neg e3, if_neg e4, if_pos e] at q; exact q
  refine sf_is_16 h hp t (fun e => ⟨_, rfl, by omega, fun x => by omega, fun _ => ?_⟩) (fun e6 => ⟨_, rfl, by omega, fun _ => ?_, fun x => absurd rfl x⟩)
  · rw [sf_ck, if_neg e1, if_neg e2, if_neg e3, if_neg e4, if_neg e5, if_pos e] at q; exact q
  refine sf_is_17 h hp t (fun e => ⟨_, rfl, by omega, fun x => by omega, fun _ => B120_p96_16 _ _ ?_⟩) (fun e7 => ⟨_, rfl, by omega, fun _ => B120_p99_16 _ _ ?_, fun x => absurd rfl x⟩)
  · rw [sf_ck, if_neg e1, if_neg e2, if_neg e3, if_neg e4, if_neg e5, if_neg e6, if_pos e] at q; exact q
  refine sf_is_18 h hp t (fun e => ⟨_, rfl, by omega, fun x => by omega, fun _ => ?_⟩) (fun e8 => ⟨_, rfl, by omega, fun _ => ?_, fun x => absurd rfl x⟩)
  · rw [sf_ck, if_neg e1, if_neg e2, if_neg e3, if_neg e4, if_neg e5, if_neg e6, if_neg e7, if_pos e] at q; exact q
  refine sf_is_19 h hp t (fun e => ⟨_, rfl, by omega, fun x => by omega, fun _ => ?_⟩) (fun e9 => ⟨_, rfl, by omega, fun _ => ?_, fun x => absurd rfl x⟩)
  · rw [sf_ck, if_neg e1, if_neg e2, if_neg e3, if_neg e4, if_neg e5, if_neg e6, if_neg e7, if_neg e8, if_pos e] at q; exact q
  · rw [sf_ck, if_neg e1, if_neg e2, if_neg e3, if_neg e4, if_neg e5, if_neg e6, if_neg e7, if_neg e8, if_neg e9] at q; exact q
theorem sp121 {N : Nat} {xs : Nat → Int32} {Q : iq_T} {g : iq_I} {l : iq_J} {A : Int → Int} {n p : Int} (h : sf_AB g A n) (hp : 0 ≤ p ∧ p ≤ n) (t : sf_CT g A n p) (q2 : sf_tk A n p = 3 ∧ sf_tv A n p = 60 → Q (some (iq_i 2)) g l) (q3 : sf_tk A n p = 3 ∧ sf_tv A n p = 62 → Q (some (iq_i 3)) g l) (q4 : sf_tk A n p = 3 ∧ sf_tv A n p = 61 → Q (some (iq_i 4)) g l) (q0 : ¬ (sf_tk A n p = 3 ∧ (sf_tv A n p = 60 ∨ sf_tv A n p = 61 ∨ sf_tv A n p = 62)) → Q (some (iq_i (-1))) g l) : iq_P N xs 121 0 [some (iq_r 16)] [] g l Q := by
  refine B121_16 _ _ (sp76 h hp t (by omega) (fun e => ⟨_, rfl, by omega, fun x => by omega, fun _ => q2 e⟩) (fun e1 => ⟨_, rfl, by omega, fun _ => ?_, fun x => absurd rfl x⟩))
  refine sp76 h hp t (by omega) (fun e => ⟨_, rfl, by omega, fun x => by omega, fun _ => q3 e⟩) (fun e2 => ⟨_, rfl, by omega, fun _ => ?_, fun x => absurd rfl x⟩)
  exact sp76 h hp t (by omega) (fun e => ⟨_, rfl, by omega, fun x => by omega, fun _ => q4 e⟩) (fun e3 => ⟨_, rfl, by omega, fun _ => q0 (by omega), fun x => absurd rfl x⟩)
theorem sp122 {N : Nat} {xs : Nat → Int32} {Q : iq_T} {g : iq_I} {l : iq_J} {A : Int → Int} {n p : Int} (h : sf_AB g A n) (hp : 0 ≤ p ∧ p ≤ n) (t : sf_CT g A n p) (q1 : sf_kp A n p = 9 → Q (some (iq_i 0)) g l) (q2 : sf_kp A n p = 19 → Q (some (iq_i 1)) g l) (q0 : ¬ sf_kp A n p = 9 → ¬ sf_kp A n p = 19 → Q (some (iq_i (-1))) g l) : iq_P N xs 122 0 [some (iq_r 16)] [] g l Q := by
  refine B122_16 _ _ (sf_is_21 h hp t (fun e => ⟨_, rfl, by omega, fun x => by omega, fun _ => q1 e⟩) (fun e1 => ⟨_, rfl, by omega, fun _ => ?_, fun x => absurd rfl x⟩))
  exact sf_is_22 h hp t (fun e => ⟨_, rfl, by omega, fun x => by omega, fun _ => q2 e⟩) (fun e2 => ⟨_, rfl, by omega, fun _ => q0 e1 e2, fun x => absurd rfl x⟩)
def sf_WV (v : Int) (G g' : iq_I) (b : Int) : Prop := (∀ j, ¬ j = 10 → ¬ j = 19 → g' j = G j) ∧ (∀ k, ¬ (3 ≤ k ∧ k ≤ b) → g' 10 k = G 10 k) ∧ (∀ k, ¬ k = v → g' 19 k = G 19 k)
theorem sf_WV.of {v : Int} {G g' : iq_I} {b : Int} (h : sf_RK G g' b) : sf_WV v G g' b := ⟨fun j y _ => h.1 j y, h.2, fun k _ => by rw [h.1 19 (by decide)]⟩
theorem sf_WV.up {v : Int} {G g' : iq_I} {b : Int} (h : sf_RK G g' b) (x : Int) : sf_WV v G (iq_uz g' 19 v x) b := by
  refine ⟨fun j y1 y2 => by rw [sf_uzn _ y2]; exact h.1 j y1, fun k y => by rw [sf_uzn _ (by decide)]; exact h.2 k y, fun k y => ?_⟩
  rw [← h.1 19 (by decide)]
  simp [iq_uz, y]
theorem sf_WV.rk {v : Int} {G g1 g' : iq_I} {b c : Int} (h : sf_WV v G g1 b) (k : sf_RK g1 g' c) (hb : b ≤ c) : sf_WV v G g' c := ⟨fun j y1 y2 => by rw [k.1 j y1]; exact h.1 j y1 y2, fun i y => by rw [k.2 i y]; exact h.2.1 i (by omega), fun i y => by rw [k.1 19 (by decide)]; exact h.2.2 i y⟩
theorem sf_AB.w {v : Int} {G g' : iq_I} {A : Int → Int} {n b : Int} (h : sf_AB G A n) (k : sf_WV v G g' b) : sf_AB g' A n := ⟨by rw [k.2.1 2 (by omega)]; exact h.1, h.2.1, by rw [k.1 11 (by decide) (by decide)]; exact h.2.2⟩
theorem sp123 {N : Nat} {xs : Nat → Int32} {Q : iq_T} {g : iq_I} {l : iq_J} {A : Int → Int} {n q v : Int} (h : sf_AB g A n) (e : g 10 3 = q) (hq : 0 ≤ q ∧ q ≤ n) (hv : 0 ≤ v ∧ v < 30) (q1 : sf_qf A n q = 0 → ∀ g' : iq_I, sf_WV v g g' 6 → g' 19 v = sf_tc A n q → g' 10 3 = sf_qa A n q → Q (some (iq_i 1)) g' l) (q0 : ¬ sf_qf A n q = 0 → ∀ g' : iq_I, sf_WV v g g' 8 → g' 10 7 = sf_qf A n q → g' 10 8 = sf_ql A n q → Q (some (iq_i 0)) g' l) : iq_P N xs 123 0 [some (iq_r 16), some (iq_i v), none] [] g l Q := by
  have tR := sf_teR (A := A) hq
  have sR := sf_tsR (A := A) hq
  have kR := sf_kpR A n q
  have v19 : ∀ (G : iq_I) (x : Int), (iq_uz G 19 v x) 19 v = x := fun G x => by simp [iq_uz]
  refine B123_16 _ _ _ (sp64x h e hq (fun c4 g1 r1 t1 => ⟨_, rfl, by omega, fun _ => ?_, fun x => by omega⟩) (fun c4 g1 r1 f7 f8 => ⟨_, rfl, by omega, fun x => absurd rfl x, fun _ => ?_⟩))
  · have h1 := h.k r1
    refine sf_is_20 h1 hq t1 (fun e20 => ⟨_, rfl, by omega, fun x => by omega, fun _ => ?_⟩) (fun e20 => ⟨_, rfl, by omega, fun _ => ?_, fun x => absurd rfl x⟩)
    · have n9 : ¬ ¬ (sf_kp A n q = 9 ∨ 19 ≤ sf_kp A n q) := by omega
      have ea : sf_qa A n q = sf_te A n (sf_te A n q) := by unfold sf_qa; rw [if_pos e20]
      have el : sf_ql A n q = sf_ts A n (sf_te A n q) := by unfold sf_ql; rw [if_neg n9]
      have ef : sf_qf A n q = if sf_tk A n (sf_te A n q) = 4 then 1 else if sf_tk A n (sf_te A n q) = 3 ∧ (sf_tv A n (sf_te A n q) = 60 ∨ sf_tv A n (sf_te A n q) = 61 ∨ sf_tv A n (sf_te A n q) = 62) then 0 else 2 := by unfold sf_qf; rw [if_neg n9, if_pos e20]
      have et : sf_tc A n q = if sf_tv A n (sf_te A n q) = 60 then 2 else if sf_tv A n (sf_te A n q) = 62 then 3 else 4 := by unfold sf_tc; rw [if_neg (by omega), if_neg (by omega)]
      have hq' : 0 ≤ sf_te A n q ∧ sf_te A n q ≤ n := by omega
      refine sp64x h1 t1.1 hq' (fun d4 g2 r2 t2 => ⟨_, rfl, by omega, fun _ => ?_, fun x => by omega⟩) (fun d4 g2 r2 f7 f8 => ⟨_, rfl, by omega, fun x => absurd rfl x, fun _ => ?_⟩)
      · have h2 := h1.k r2
        have r12 := r1.trans r2 (by omega)
        rw [if_neg d4] at ef
        refine B123_p38_16 _ _ _ _ ⟨by omega, fun x => by omega, fun _ => sp121 h2 hq' t2 (fun z => ⟨_, rfl, hv, hv, ?_⟩) (fun z => ⟨_, rfl, hv, hv, ?_⟩) (fun z => ⟨_, rfl, hv, hv, ?_⟩) (fun z => ⟨_, rfl, hv, hv, ?_⟩)⟩
        · rw [v19]
          rw [if_pos ⟨z.1, .inl z.2⟩] at ef
          rw [if_pos z.2] at et
          exact ⟨by omega, fun _ => B123_p86_16 _ _ _ _ (q1 ef _ (.up r12 2) (by rw [v19, et]) (by rw [sf_uzn _ (by decide), ea]; exact t2.1)), fun x => by omega⟩
        · rw [v19]
          rw [if_pos ⟨z.1, .inr (.inr z.2)⟩] at ef
          rw [if_neg (by omega), if_pos z.2] at et
          exact ⟨by omega, fun _ => B123_p86_16 _ _ _ _ (q1 ef _ (.up r12 3) (by rw [v19, et]) (by rw [sf_uzn _ (by decide), ea]; exact t2.1)), fun x => by omega⟩
        · rw [v19]
          rw [if_pos ⟨z.1, .inr (.inl z.2)⟩] at ef
          rw [if_neg (by omega), if_neg (by omega)] at et
          exact ⟨by omega, fun _ => B123_p86_16 _ _ _ _ (q1 ef _ (.up r12 4) (by rw [v19, et]) (by rw [sf_uzn _ (by decide), ea]; exact t2.1)), fun x => by omega⟩
        · rw [v19]
          rw [if_neg z] at ef
          refine ⟨by omega, fun x => absurd rfl x, fun _ => sp63 (fun g3 r3 f7 f8 => ⟨_, rfl, by omega, fun _ => B123_p90_16 _ _ _ _ (q0 (by omega) g3 ((sf_WV.up r12 (-1)).rk r3 (by omega)) (by rw [f7, ef]) ?_), fun x => absurd rfl x⟩)⟩
          rw [f8, sf_uzn _ (by decide), el]; exact t2.2.2.1
      · rw [if_pos d4] at ef
        exact q0 (by omega) g2 (.of (r1.trans r2 (by omega))) (by rw [f7, ef]) (by rw [f8, el])
    · have ea : sf_qa A n q = sf_te A n q := by unfold sf_qa; rw [if_neg e20]
      refine B123_p38_16 _ _ _ _ ⟨by omega, fun _ => sp122 h1 hq t1 (fun z => ⟨_, rfl, hv, hv, ?_⟩) (fun z => ⟨_, rfl, hv, hv, ?_⟩) (fun z1 z2 => ⟨_, rfl, hv, hv, ?_⟩), fun x => absurd rfl x⟩
      · rw [v19]
        have ef : sf_qf A n q = 0 := by unfold sf_qf; rw [if_neg (by omega), if_neg (by omega)]
        have et : sf_tc A n q = 0 := by unfold sf_tc; rw [if_pos z]
        exact ⟨by omega, fun _ => B123_p86_16 _ _ _ _ (q1 ef _ (.up r1 0) (by rw [v19, et]) (by rw [sf_uzn _ (by decide), ea]; exact t1.1)), fun x => by omega⟩
      · rw [v19]
        have ef : sf_qf A n q = 0 := by unfold sf_qf; rw [if_neg (by omega), if_neg (by omega)]
        have et : sf_tc A n q = 1 := by unfold sf_tc; rw [if_neg (by omega), if_pos z]
        exact ⟨by omega, fun _ => B123_p86_16 _ _ _ _ (q1 ef _ (.up r1 1) (by rw [v19, et]) (by rw [sf_uzn _ (by decide), ea]; exact t1.1)), fun x => by omega⟩
      · rw [v19]
        have ef : sf_qf A n q = 2 := by unfold sf_qf; rw [if_pos (by omega), if_neg c4]
        have el : sf_ql A n q = sf_ts A n q := by unfold sf_ql; rw [if_pos (by omega)]
        refine ⟨by omega, fun x => absurd rfl x, fun _ => sp63 (fun g3 r3 f7 f8 => ⟨_, rfl, by omega, fun _ => B123_p90_16 _ _ _ _ (q0 (by omega) g3 ((sf_WV.up r1 (-1)).rk r3 (by omega)) (by rw [f7, ef]) ?_), fun x => absurd rfl x⟩)⟩
        rw [f8, sf_uzn _ (by decide), el]; exact t1.2.2.1
  · have k0 : ¬ (sf_kp A n q = 9 ∨ 19 ≤ sf_kp A n q) := by unfold sf_kp; rw [if_neg (by omega)]; omega
    have ef : sf_qf A n q = 1 := by unfold sf_qf; rw [if_pos k0, if_pos c4]
    have el : sf_ql A n q = sf_ts A n q := by unfold sf_ql; rw [if_pos k0]
    exact q0 (by omega) g1 (.of r1) (by rw [f7, ef]) (by rw [f8, el])
