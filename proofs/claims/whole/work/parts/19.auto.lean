set_option maxRecDepth 10000 in
-- ScaleForge.isBoundByPeriod(I)Z
theorem s3 {N : Nat} {xs : Nat → Int32} {hi : Nat → Nat → Int32} {hl : Nat → Nat → Int64} {Q : Option Value → ij_H → Prop} (a0 : Int32) (q0 : (a0 = 2) → Q (some (.int (1))) (ij_SH, hi, hl, ij_HR)) (q1 : ¬ (a0 = 2) → (a0 = 5) → Q (some (.int (1))) (ij_SH, hi, hl, ij_HR)) (q2 : ¬ (a0 = 2) → ¬ (a0 = 5) → (a0 = 7) → Q (some (.int (1))) (ij_SH, hi, hl, ij_HR)) (q3 : ¬ (a0 = 2) → ¬ (a0 = 5) → ¬ (a0 = 7) → (a0 = 8) → Q (some (.int (1))) (ij_SH, hi, hl, ij_HR)) (q4 : ¬ (a0 = 2) → ¬ (a0 = 5) → ¬ (a0 = 7) → ¬ (a0 = 8) → Q (some (.int (0))) (ij_SH, hi, hl, ij_HR)) : ij_R (ij_xt N xs) 3 0 [some (.int a0)] [] (ij_SH, hi, hl, ij_HR) Q := by
  refine ij_br 3 (a0 = 2) 22 5 [some (.int a0)] [] (ij_SH, hi, hl, ij_HR) (fun n => rfl) (fun c1 => ?_) (fun c1 => ?_)
  · skip
    exact ij_ret 3 (some (.int (1))) (ij_SH, hi, hl, ij_HR) (fun n => rfl) (q0 c1)
  · skip
    refine ij_br 3 (a0 = 5) 22 10 [some (.int a0)] [] (ij_SH, hi, hl, ij_HR) (fun n => rfl) (fun c2 => ?_) (fun c2 => ?_)
    · skip
      exact ij_ret 3 (some (.int (1))) (ij_SH, hi, hl, ij_HR) (fun n => rfl) (q1 c1 c2)
    · skip
      refine ij_br 3 (a0 = 7) 22 16 [some (.int a0)] [] (ij_SH, hi, hl, ij_HR) (fun n => rfl) (fun c3 => ?_) (fun c3 => ?_)
      · skip
        exact ij_ret 3 (some (.int (1))) (ij_SH, hi, hl, ij_HR) (fun n => rfl) (q2 c1 c2 c3)
      · skip
        refine ij_br 3 (a0 = 8) 22 26 [some (.int a0)] [] (ij_SH, hi, hl, ij_HR) (fun n => rfl) (fun c4 => ?_) (fun c4 => ?_)
        · skip
          exact ij_ret 3 (some (.int (1))) (ij_SH, hi, hl, ij_HR) (fun n => rfl) (q3 c1 c2 c3 c4)
        · skip
          exact ij_ret 2 (some (.int (0))) (ij_SH, hi, hl, ij_HR) (fun n => rfl) (q4 c1 c2 c3 c4)
set_option maxRecDepth 10000 in
-- java/lang/Math.floorMod(II)I
theorem s4 {N : Nat} {xs : Nat → Int32} {hi : Nat → Nat → Int32} {hl : Nat → Nat → Int64} {Q : Option Value → ij_H → Prop} (a0 : Int32) (a1 : Int32) (b0 : ¬ (a1 = 0)) (q0 : ((0 : Int32) ≤ (a0 ^^^ a1)) → Q (some (.int ((a0 - a0 / a1 * a1)))) (ij_SH, hi, hl, ij_HR)) (q1 : ¬ ((0 : Int32) ≤ (a0 ^^^ a1)) → ((a0 - a0 / a1 * a1) = 0) → Q (some (.int ((a0 - a0 / a1 * a1)))) (ij_SH, hi, hl, ij_HR)) (q2 : ¬ ((0 : Int32) ≤ (a0 ^^^ a1)) → ¬ ((a0 - a0 / a1 * a1) = 0) → Q (some (.int (((a0 - a0 / a1 * a1) + a1)))) (ij_SH, hi, hl, ij_HR)) : ij_R (ij_xt N xs) 4 0 [some (.int a0), some (.int a1), none] [] (ij_SH, hi, hl, ij_HR) Q := by
  refine ij_go 2 2 [some (.int a0), some (.int a1), none] [.int a1, .int a0] (ij_SH, hi, hl, ij_HR) (fun n => rfl) ?_
  refine ij_irem rfl (b0) ?_
  refine ij_br 5 ((0 : Int32) ≤ (a0 ^^^ a1)) 18 10 [some (.int a0), some (.int a1), some (.int ((a0 - a0 / a1 * a1)))] [] (ij_SH, hi, hl, ij_HR) (fun n => rfl) (fun c1 => ?_) (fun c1 => ?_)
  · skip
    exact ij_ret 2 (some (.int ((a0 - a0 / a1 * a1)))) (ij_SH, hi, hl, ij_HR) (fun n => rfl) (q0 c1)
  · skip
    refine ij_br 2 ((a0 - a0 / a1 * a1) = 0) 18 14 [some (.int a0), some (.int a1), some (.int ((a0 - a0 / a1 * a1)))] [] (ij_SH, hi, hl, ij_HR) (fun n => rfl) (fun c2 => ?_) (fun c2 => ?_)
    · skip
      exact ij_ret 2 (some (.int ((a0 - a0 / a1 * a1)))) (ij_SH, hi, hl, ij_HR) (fun n => rfl) (q1 c1 c2)
    · skip
      exact ij_ret 4 (some (.int (((a0 - a0 / a1 * a1) + a1)))) (ij_SH, hi, hl, ij_HR) (fun n => rfl) (q2 c1 c2)
def f4 (a0 : Int32) (a1 : Int32) (hi : Nat → Nat → Int32) (hl : Nat → Nat → Int64) : Int32 := if (0 : Int32) ≤ (a0 ^^^ a1) then ((a0 - a0 / a1 * a1)) else (if (a0 - a0 / a1 * a1) = 0 then ((a0 - a0 / a1 * a1)) else (((a0 - a0 / a1 * a1) + a1)))
theorem t4 {N : Nat} {xs : Nat → Int32} {hi : Nat → Nat → Int32} {hl : Nat → Nat → Int64} {Q : Option Value → ij_H → Prop} (a0 : Int32) (a1 : Int32) (b0 : ¬ (a1 = 0)) (q : Q (some (.int (f4 a0 a1 hi hl))) (ij_SH, hi, hl, ij_HR)) : ij_R (ij_xt N xs) 4 0 [some (.int a0), some (.int a1), none] [] (ij_SH, hi, hl, ij_HR) Q :=
  s4 a0 a1 b0 (fun k0 => by rw [f4, if_pos k0] at q; exact q) (fun k0 k1 => by rw [f4, if_neg k0, if_pos k1] at q; exact q) (fun k0 k1 => by rw [f4, if_neg k0, if_neg k1] at q; exact q)
set_option maxRecDepth 10000 in
-- ScaleForge$Scale.folded(I)I
theorem s5_23 {N : Nat} {xs : Nat → Int32} {hi : Nat → Nat → Int32} {hl : Nat → Nat → Int64} {Q : Option Value → ij_H → Prop} (a0 : Int32) (q0 : ((hi 24 1) ≤ 0) → Q (some (.int (0))) (ij_SH, hi, hl, ij_HR)) (q1 : ¬ ((hi 24 1) ≤ 0) → Q (some (.int ((f4 a0 (hi 24 1) hi hl)))) (ij_SH, hi, hl, ij_HR)) : ij_R (ij_xt N xs) 5 0 [some (.ref 23), some (.int a0), none] [] (ij_SH, hi, hl, ij_HR) Q := by
  refine ij_br 7 ((hi 24 1) ≤ 0) 19 11 [some (.ref 23), some (.int a0), some (.int ((hi 24 1)))] [] (ij_SH, hi, hl, ij_HR) (fun n => rfl) (fun c1 => ?_) (fun c1 => ?_)
  · skip
    exact ij_ret 2 (some (.int (0))) (ij_SH, hi, hl, ij_HR) (fun n => rfl) (q0 c1)
  · skip
    refine ij_call 3 4 [some (.int a0), some (.int ((hi 24 1))), none] [] 16 [some (.ref 23), some (.int a0), some (.int ((hi 24 1)))] (ij_SH, hi, hl, ij_HR) (fun n => rfl) (t4 a0 (hi 24 1) (ij_nz1 c1) ?_)
    -- back
    exact ij_ret 2 (some (.int ((f4 a0 (hi 24 1) hi hl)))) (ij_SH, hi, hl, ij_HR) (fun n => rfl) (q1 c1)
def f5_23 (a0 : Int32) (hi : Nat → Nat → Int32) (hl : Nat → Nat → Int64) : Int32 := if (hi 24 1) ≤ 0 then (0) else ((f4 a0 (hi 24 1) hi hl))
theorem t5_23 {N : Nat} {xs : Nat → Int32} {hi : Nat → Nat → Int32} {hl : Nat → Nat → Int64} {Q : Option Value → ij_H → Prop} (a0 : Int32) (q : Q (some (.int (f5_23 a0 hi hl))) (ij_SH, hi, hl, ij_HR)) : ij_R (ij_xt N xs) 5 0 [some (.ref 23), some (.int a0), none] [] (ij_SH, hi, hl, ij_HR) Q :=
  s5_23 a0 (fun k0 => by rw [f5_23, if_pos k0] at q; exact q) (fun k0 => by rw [f5_23, if_neg k0] at q; exact q)
set_option maxRecDepth 10000 in
-- ScaleForge$Scale.folded(I)I
theorem s5_44 {N : Nat} {xs : Nat → Int32} {hi : Nat → Nat → Int32} {hl : Nat → Nat → Int64} {Q : Option Value → ij_H → Prop} (a0 : Int32) (q0 : ((hi 45 1) ≤ 0) → Q (some (.int (0))) (ij_SH, hi, hl, ij_HR)) (q1 : ¬ ((hi 45 1) ≤ 0) → Q (some (.int ((f4 a0 (hi 45 1) hi hl)))) (ij_SH, hi, hl, ij_HR)) : ij_R (ij_xt N xs) 5 0 [some (.ref 44), some (.int a0), none] [] (ij_SH, hi, hl, ij_HR) Q := by
  refine ij_br 7 ((hi 45 1) ≤ 0) 19 11 [some (.ref 44), some (.int a0), some (.int ((hi 45 1)))] [] (ij_SH, hi, hl, ij_HR) (fun n => rfl) (fun c1 => ?_) (fun c1 => ?_)
  · skip
    exact ij_ret 2 (some (.int (0))) (ij_SH, hi, hl, ij_HR) (fun n => rfl) (q0 c1)
  · skip
    refine ij_call 3 4 [some (.int a0), some (.int ((hi 45 1))), none] [] 16 [some (.ref 44), some (.int a0), some (.int ((hi 45 1)))] (ij_SH, hi, hl, ij_HR) (fun n => rfl) (t4 a0 (hi 45 1) (ij_nz1 c1) ?_)
    -- back
    exact ij_ret 2 (some (.int ((f4 a0 (hi 45 1) hi hl)))) (ij_SH, hi, hl, ij_HR) (fun n => rfl) (q1 c1)
def f5_44 (a0 : Int32) (hi : Nat → Nat → Int32) (hl : Nat → Nat → Int64) : Int32 := if (hi 45 1) ≤ 0 then (0) else ((f4 a0 (hi 45 1) hi hl))
theorem t5_44 {N : Nat} {xs : Nat → Int32} {hi : Nat → Nat → Int32} {hl : Nat → Nat → Int64} {Q : Option Value → ij_H → Prop} (a0 : Int32) (q : Q (some (.int (f5_44 a0 hi hl))) (ij_SH, hi, hl, ij_HR)) : ij_R (ij_xt N xs) 5 0 [some (.ref 44), some (.int a0), none] [] (ij_SH, hi, hl, ij_HR) Q :=
  s5_44 a0 (fun k0 => by rw [f5_44, if_pos k0] at q; exact q) (fun k0 => by rw [f5_44, if_neg k0] at q; exact q)
set_option maxRecDepth 10000 in
-- ScaleForge$Scale.folded(I)I
theorem s5_13 {N : Nat} {xs : Nat → Int32} {hi : Nat → Nat → Int32} {hl : Nat → Nat → Int64} {Q : Option Value → ij_H → Prop} (a0 : Int32) (q0 : ((hi 14 1) ≤ 0) → Q (some (.int (0))) (ij_SH, hi, hl, ij_HR)) (q1 : ¬ ((hi 14 1) ≤ 0) → Q (some (.int ((f4 a0 (hi 14 1) hi hl)))) (ij_SH, hi, hl, ij_HR)) : ij_R (ij_xt N xs) 5 0 [some (.ref 13), some (.int a0), none] [] (ij_SH, hi, hl, ij_HR) Q := by
  refine ij_br 7 ((hi 14 1) ≤ 0) 19 11 [some (.ref 13), some (.int a0), some (.int ((hi 14 1)))] [] (ij_SH, hi, hl, ij_HR) (fun n => rfl) (fun c1 => ?_) (fun c1 => ?_)
  · skip
    exact ij_ret 2 (some (.int (0))) (ij_SH, hi, hl, ij_HR) (fun n => rfl) (q0 c1)
  · skip
    refine ij_call 3 4 [some (.int a0), some (.int ((hi 14 1))), none] [] 16 [some (.ref 13), some (.int a0), some (.int ((hi 14 1)))] (ij_SH, hi, hl, ij_HR) (fun n => rfl) (t4 a0 (hi 14 1) (ij_nz1 c1) ?_)
    -- back
    exact ij_ret 2 (some (.int ((f4 a0 (hi 14 1) hi hl)))) (ij_SH, hi, hl, ij_HR) (fun n => rfl) (q1 c1)
def f5_13 (a0 : Int32) (hi : Nat → Nat → Int32) (hl : Nat → Nat → Int64) : Int32 := if (hi 14 1) ≤ 0 then (0) else ((f4 a0 (hi 14 1) hi hl))
theorem t5_13 {N : Nat} {xs : Nat → Int32} {hi : Nat → Nat → Int32} {hl : Nat → Nat → Int64} {Q : Option Value → ij_H → Prop} (a0 : Int32) (q : Q (some (.int (f5_13 a0 hi hl))) (ij_SH, hi, hl, ij_HR)) : ij_R (ij_xt N xs) 5 0 [some (.ref 13), some (.int a0), none] [] (ij_SH, hi, hl, ij_HR) Q :=
  s5_13 a0 (fun k0 => by rw [f5_13, if_pos k0] at q; exact q) (fun k0 => by rw [f5_13, if_neg k0] at q; exact q)
set_option maxRecDepth 10000 in
-- ScaleForge$Bits.of(I)J
theorem s6 {N : Nat} {xs : Nat → Int32} {hi : Nat → Nat → Int32} {hl : Nat → Nat → Int64} {Q : Option Value → ij_H → Prop} (a0 : Int32) (q0 : (a0 < 0) → Q (some (.long (0))) (ij_SH, hi, hl, ij_HR)) (q1 : ¬ (a0 < 0) → (64 ≤ a0) → Q (some (.long (0))) (ij_SH, hi, hl, ij_HR)) (q2 : ¬ (a0 < 0) → ¬ (64 ≤ a0) → Q (some (.long ((1 <<< ((a0 : Int32).toInt64 &&& 63))))) (ij_SH, hi, hl, ij_HR)) : ij_R (ij_xt N xs) 6 0 [some (.int a0)] [] (ij_SH, hi, hl, ij_HR) Q := by
  refine ij_br 2 (a0 < 0) 16 4 [some (.int a0)] [] (ij_SH, hi, hl, ij_HR) (fun n => rfl) (fun c1 => ?_) (fun c1 => ?_)
  · skip
    exact ij_ret 2 (some (.long (0))) (ij_SH, hi, hl, ij_HR) (fun n => rfl) (q0 c1)
  · skip
    refine ij_br 3 (64 ≤ a0) 16 10 [some (.int a0)] [] (ij_SH, hi, hl, ij_HR) (fun n => rfl) (fun c2 => ?_) (fun c2 => ?_)
    · skip
      exact ij_ret 2 (some (.long (0))) (ij_SH, hi, hl, ij_HR) (fun n => rfl) (q1 c1 c2)
    · skip
      exact ij_ret 5 (some (.long ((1 <<< ((a0 : Int32).toInt64 &&& 63))))) (ij_SH, hi, hl, ij_HR) (fun n => rfl) (q2 c1 c2)
def f6 (a0 : Int32) (hi : Nat → Nat → Int32) (hl : Nat → Nat → Int64) : Int64 := if a0 < 0 then (0) else (if 64 ≤ a0 then (0) else ((1 <<< ((a0 : Int32).toInt64 &&& 63))))
theorem t6 {N : Nat} {xs : Nat → Int32} {hi : Nat → Nat → Int32} {hl : Nat → Nat → Int64} {Q : Option Value → ij_H → Prop} (a0 : Int32) (q : Q (some (.long (f6 a0 hi hl))) (ij_SH, hi, hl, ij_HR)) : ij_R (ij_xt N xs) 6 0 [some (.int a0)] [] (ij_SH, hi, hl, ij_HR) Q :=
  s6 a0 (fun k0 => by rw [f6, if_pos k0] at q; exact q) (fun k0 k1 => by rw [f6, if_neg k0, if_pos k1] at q; exact q) (fun k0 k1 => by rw [f6, if_neg k0, if_neg k1] at q; exact q)
set_option maxRecDepth 10000 in
-- ScaleForge$Bits.below(I)J
theorem s7 {N : Nat} {xs : Nat → Int32} {hi : Nat → Nat → Int32} {hl : Nat → Nat → Int64} {Q : Option Value → ij_H → Prop} (a0 : Int32) (q0 : Q (some (.long (((f6 a0 hi hl) - 1)))) (ij_SH, hi, hl, ij_HR)) : ij_R (ij_xt N xs) 7 0 [some (.int a0)] [] (ij_SH, hi, hl, ij_HR) Q := by
  refine ij_call 2 6 [some (.int a0)] [] 4 [some (.int a0)] (ij_SH, hi, hl, ij_HR) (fun n => rfl) (t6 a0 ?_)
  -- back
  exact ij_ret 3 (some (.long (((f6 a0 hi hl) - 1)))) (ij_SH, hi, hl, ij_HR) (fun n => rfl) (q0)
set_option maxRecDepth 10000 in
-- ScaleForge.status()I
theorem s21_0 {N : Nat} {xs : Nat → Int32} {hi : Nat → Nat → Int32} {hl : Nat → Nat → Int64} {Q : Option Value → ij_H → Prop} (q0 : Q (some (.int ((hi 0 0)))) (ij_SH, hi, hl, ij_HR)) : ij_R (ij_xt N xs) 21 0 [some (.ref 0)] [] (ij_SH, hi, hl, ij_HR) Q := by
  exact ij_ret 3 (some (.int ((hi 0 0)))) (ij_SH, hi, hl, ij_HR) (fun n => rfl) (q0)
set_option maxRecDepth 10000 in
-- ScaleForgeModel.status()I
theorem s22_77 {N : Nat} {xs : Nat → Int32} {hi : Nat → Nat → Int32} {hl : Nat → Nat → Int64} {Q : Option Value → ij_H → Prop} (q0 : Q (some (.int ((hi 77 1)))) (ij_SH, hi, hl, ij_HR)) : ij_R (ij_xt N xs) 22 0 [some (.ref 77)] [] (ij_SH, hi, hl, ij_HR) Q := by
  exact ij_ret 3 (some (.int ((hi 77 1)))) (ij_SH, hi, hl, ij_HR) (fun n => rfl) (q0)
set_option maxRecDepth 10000 in
-- ScaleForge.top()J
theorem s23_0 {N : Nat} {xs : Nat → Int32} {hi : Nat → Nat → Int32} {hl : Nat → Nat → Int64} {Q : Option Value → ij_H → Prop} (q0 : Q (some (.long ((hl 0 1)))) (ij_SH, hi, hl, ij_HR)) : ij_R (ij_xt N xs) 23 0 [some (.ref 0)] [] (ij_SH, hi, hl, ij_HR) Q := by
  exact ij_ret 3 (some (.long ((hl 0 1)))) (ij_SH, hi, hl, ij_HR) (fun n => rfl) (q0)
set_option maxRecDepth 10000 in
-- ScaleForgeModel.top()J
theorem s24_77 {N : Nat} {xs : Nat → Int32} {hi : Nat → Nat → Int32} {hl : Nat → Nat → Int64} {Q : Option Value → ij_H → Prop} (q0 : Q (some (.long ((hl 77 2)))) (ij_SH, hi, hl, ij_HR)) : ij_R (ij_xt N xs) 24 0 [some (.ref 77)] [] (ij_SH, hi, hl, ij_HR) Q := by
  exact ij_ret 3 (some (.long ((hl 77 2)))) (ij_SH, hi, hl, ij_HR) (fun n => rfl) (q0)
set_option maxRecDepth 10000 in
-- ScaleForge.bottom()J
theorem s25_0 {N : Nat} {xs : Nat → Int32} {hi : Nat → Nat → Int32} {hl : Nat → Nat → Int64} {Q : Option Value → ij_H → Prop} (q0 : Q (some (.long ((hl 0 2)))) (ij_SH, hi, hl, ij_HR)) : ij_R (ij_xt N xs) 25 0 [some (.ref 0)] [] (ij_SH, hi, hl, ij_HR) Q := by
  exact ij_ret 3 (some (.long ((hl 0 2)))) (ij_SH, hi, hl, ij_HR) (fun n => rfl) (q0)
set_option maxRecDepth 10000 in
-- ScaleForgeModel.bottom()J
theorem s26_77 {N : Nat} {xs : Nat → Int32} {hi : Nat → Nat → Int32} {hl : Nat → Nat → Int64} {Q : Option Value → ij_H → Prop} (q0 : Q (some (.long ((hl 77 3)))) (ij_SH, hi, hl, ij_HR)) : ij_R (ij_xt N xs) 26 0 [some (.ref 77)] [] (ij_SH, hi, hl, ij_HR) Q := by
  exact ij_ret 3 (some (.long ((hl 77 3)))) (ij_SH, hi, hl, ij_HR) (fun n => rfl) (q0)
set_option maxRecDepth 10000 in
-- ScaleForge.trayAt(I)LScaleForge$Tray;
theorem s27_0 {N : Nat} {xs : Nat → Int32} {hi : Nat → Nat → Int32} {hl : Nat → Nat → Int64} {Q : Option Value → ij_H → Prop} (a0 : Int32) (q0 : (a0 < 0) → Q (some (.null)) (ij_SH, hi, hl, ij_HR)) (q1 : ¬ (a0 < 0) → (4 ≤ a0) → Q (some (.null)) (ij_SH, hi, hl, ij_HR)) (q2 : ¬ (a0 < 0) → ¬ (4 ≤ a0) → (a0 = 0) → Q (some (.ref 2)) (ij_SH, hi, hl, ij_HR)) (q3 : ¬ (a0 < 0) → ¬ (4 ≤ a0) → ¬ (a0 = 0) → (a0 = 1) → Q (some (.ref 4)) (ij_SH, hi, hl, ij_HR)) (q4 : ¬ (a0 < 0) → ¬ (4 ≤ a0) → ¬ (a0 = 0) → ¬ (a0 = 1) → (a0 = 2) → Q (some (.ref 6)) (ij_SH, hi, hl, ij_HR)) (q5 : ¬ (a0 < 0) → ¬ (4 ≤ a0) → ¬ (a0 = 0) → ¬ (a0 = 1) → ¬ (a0 = 2) → (a0 = 3) → Q (some (.ref 8)) (ij_SH, hi, hl, ij_HR)) : ij_R (ij_xt N xs) 27 0 [some (.ref 0), some (.int a0)] [] (ij_SH, hi, hl, ij_HR) Q := by
  refine ij_br 2 (a0 < 0) 22 4 [some (.ref 0), some (.int a0)] [] (ij_SH, hi, hl, ij_HR) (fun n => rfl) (fun c1 => ?_) (fun c1 => ?_)
  · skip
    exact ij_ret 2 (some (.null)) (ij_SH, hi, hl, ij_HR) (fun n => rfl) (q0 c1)
  · skip
    refine ij_br 5 (4 ≤ a0) 22 13 [some (.ref 0), some (.int a0)] [] (ij_SH, hi, hl, ij_HR) (fun n => rfl) (fun c2 => ?_) (fun c2 => ?_)
    · skip
      exact ij_ret 2 (some (.null)) (ij_SH, hi, hl, ij_HR) (fun n => rfl) (q1 c1 c2)
    · skip
      refine ij_go 3 18 [some (.ref 0), some (.int a0)] [.int a0, .ref 1] (ij_SH, hi, hl, ij_HR) (fun n => rfl) ?_
      by_cases c3 : a0 = 0
      · skip
        refine ij_aal (x := a0) (v := 0) (o := 2) rfl rfl rfl c3 rfl (by decide) ?_
        exact ij_ret 2 (some (.ref 2)) (ij_SH, hi, hl, ij_HR) (fun n => rfl) (q2 c1 c2 c3)
      by_cases c4 : a0 = 1
      · skip
        refine ij_aal (x := a0) (v := 1) (o := 4) rfl rfl rfl c4 rfl (by decide) ?_
        exact ij_ret 2 (some (.ref 4)) (ij_SH, hi, hl, ij_HR) (fun n => rfl) (q3 c1 c2 c3 c4)
      by_cases c5 : a0 = 2
      · skip
        refine ij_aal (x := a0) (v := 2) (o := 6) rfl rfl rfl c5 rfl (by decide) ?_
        exact ij_ret 2 (some (.ref 6)) (ij_SH, hi, hl, ij_HR) (fun n => rfl) (q4 c1 c2 c3 c4 c5)
      by_cases c6 : a0 = 3
      · skip
        refine ij_aal (x := a0) (v := 3) (o := 8) rfl rfl rfl c6 rfl (by decide) ?_
        exact ij_ret 2 (some (.ref 8)) (ij_SH, hi, hl, ij_HR) (fun n => rfl) (q5 c1 c2 c3 c4 c5 c6)
      exact (ij_out4 c1 (Int32.not_le.mp c2) c3 c4 c5 c6).elim
set_option maxRecDepth 10000 in
-- ScaleForge.refuse(I)Z
theorem s28_0 {N : Nat} {xs : Nat → Int32} {hi : Nat → Nat → Int32} {hl : Nat → Nat → Int64} {Q : Option Value → ij_H → Prop} (a0 : Int32) (q0 : Q (some (.int (0))) (ij_SH, (ij_ui hi 0 0 a0), hl, ij_HR)) : ij_R (ij_xt N xs) 28 0 [some (.ref 0), some (.int a0)] [] (ij_SH, hi, hl, ij_HR) Q := by
  exact ij_ret 5 (some (.int (0))) (ij_SH, (ij_ui hi 0 0 a0), hl, ij_HR) (fun n => rfl) (q0)
set_option maxRecDepth 10000 in
-- ScaleForge.grant()Z
theorem s30_0 {N : Nat} {xs : Nat → Int32} {hi : Nat → Nat → Int32} {hl : Nat → Nat → Int64} {Q : Option Value → ij_H → Prop} (q0 : Q (some (.int (1))) (ij_SH, (ij_ui hi 0 0 0), hl, ij_HR)) : ij_R (ij_xt N xs) 30 0 [some (.ref 0)] [] (ij_SH, hi, hl, ij_HR) Q := by
  exact ij_ret 5 (some (.int (1))) (ij_SH, (ij_ui hi 0 0 0), hl, ij_HR) (fun n => rfl) (q0)
set_option maxRecDepth 10000 in
-- ScaleForgeModel.isTray(I)Z
theorem s32 {N : Nat} {xs : Nat → Int32} {hi : Nat → Nat → Int32} {hl : Nat → Nat → Int64} {Q : Option Value → ij_H → Prop} (a0 : Int32) (q0 : (a0 < 0) → Q (some (.int (0))) (ij_SH, hi, hl, ij_HR)) (q1 : ¬ (a0 < 0) → (4 ≤ a0) → Q (some (.int (0))) (ij_SH, hi, hl, ij_HR)) (q2 : ¬ (a0 < 0) → ¬ (4 ≤ a0) → Q (some (.int (1))) (ij_SH, hi, hl, ij_HR)) : ij_R (ij_xt N xs) 32 0 [some (.int a0)] [] (ij_SH, hi, hl, ij_HR) Q := by
  refine ij_br 2 (a0 < 0) 13 4 [some (.int a0)] [] (ij_SH, hi, hl, ij_HR) (fun n => rfl) (fun c1 => ?_) (fun c1 => ?_)
  · skip
    exact ij_ret 2 (some (.int (0))) (ij_SH, hi, hl, ij_HR) (fun n => rfl) (q0 c1)
  · skip
    refine ij_br 3 (4 ≤ a0) 13 9 [some (.int a0)] [] (ij_SH, hi, hl, ij_HR) (fun n => rfl) (fun c2 => ?_) (fun c2 => ?_)
    · skip
      exact ij_ret 2 (some (.int (0))) (ij_SH, hi, hl, ij_HR) (fun n => rfl) (q1 c1 c2)
    · skip
      exact ij_ret 3 (some (.int (1))) (ij_SH, hi, hl, ij_HR) (fun n => rfl) (q2 c1 c2)
set_option maxRecDepth 10000 in
-- ScaleForgeModel.is(I)Z
theorem s33_77 {N : Nat} {xs : Nat → Int32} {hi : Nat → Nat → Int32} {hl : Nat → Nat → Int64} {Q : Option Value → ij_H → Prop} (a0 : Int32) (q0 : (a0 = 0) → Q (some (.int (1))) (ij_SH, (ij_ui hi 77 1 a0), hl, ij_HR)) (q1 : ¬ (a0 = 0) → Q (some (.int (0))) (ij_SH, (ij_ui hi 77 1 a0), hl, ij_HR)) : ij_R (ij_xt N xs) 33 0 [some (.ref 77), some (.int a0)] [] (ij_SH, hi, hl, ij_HR) Q := by
  refine ij_br 5 (a0 = 0) 9 13 [some (.ref 77), some (.int a0)] [] (ij_SH, (ij_ui hi 77 1 a0), hl, ij_HR) (fun n => rfl) (fun c1 => ?_) (fun c1 => ?_)
  · skip
    exact ij_ret 3 (some (.int (1))) (ij_SH, (ij_ui hi 77 1 a0), hl, ij_HR) (fun n => rfl) (q0 c1)
  · skip
    exact ij_ret 2 (some (.int (0))) (ij_SH, (ij_ui hi 77 1 a0), hl, ij_HR) (fun n => rfl) (q1 c1)
set_option maxRecDepth 10000 in
-- ScaleForge$Tray.isMissing()Z
theorem s35_2 {N : Nat} {xs : Nat → Int32} {hi : Nat → Nat → Int32} {hl : Nat → Nat → Int64} {Q : Option Value → ij_H → Prop} (q0 : ((hi 2 2) = (-1)) → Q (some (.int (1))) (ij_SH, hi, hl, ij_HR)) (q1 : ¬ ((hi 2 2) = (-1)) → Q (some (.int (0))) (ij_SH, hi, hl, ij_HR)) : ij_R (ij_xt N xs) 35 0 [some (.ref 2)] [] (ij_SH, hi, hl, ij_HR) Q := by
  refine ij_br 4 ((hi 2 2) = (-1)) 8 12 [some (.ref 2)] [] (ij_SH, hi, hl, ij_HR) (fun n => rfl) (fun c1 => ?_) (fun c1 => ?_)
  · skip
    exact ij_ret 3 (some (.int (1))) (ij_SH, hi, hl, ij_HR) (fun n => rfl) (q0 c1)
  · skip
    exact ij_ret 2 (some (.int (0))) (ij_SH, hi, hl, ij_HR) (fun n => rfl) (q1 c1)
set_option maxRecDepth 10000 in
-- ScaleForge$Tray.isMissing()Z
theorem s35_4 {N : Nat} {xs : Nat → Int32} {hi : Nat → Nat → Int32} {hl : Nat → Nat → Int64} {Q : Option Value → ij_H → Prop} (q0 : ((hi 4 2) = (-1)) → Q (some (.int (1))) (ij_SH, hi, hl, ij_HR)) (q1 : ¬ ((hi 4 2) = (-1)) → Q (some (.int (0))) (ij_SH, hi, hl, ij_HR)) : ij_R (ij_xt N xs) 35 0 [some (.ref 4)] [] (ij_SH, hi, hl, ij_HR) Q := by
  refine ij_br 4 ((hi 4 2) = (-1)) 8 12 [some (.ref 4)] [] (ij_SH, hi, hl, ij_HR) (fun n => rfl) (fun c1 => ?_) (fun c1 => ?_)
  · skip
    exact ij_ret 3 (some (.int (1))) (ij_SH, hi, hl, ij_HR) (fun n => rfl) (q0 c1)
  · skip
    exact ij_ret 2 (some (.int (0))) (ij_SH, hi, hl, ij_HR) (fun n => rfl) (q1 c1)
set_option maxRecDepth 10000 in
-- ScaleForge$Tray.isMissing()Z
theorem s35_6 {N : Nat} {xs : Nat → Int32} {hi : Nat → Nat → Int32} {hl : Nat → Nat → Int64} {Q : Option Value → ij_H → Prop} (q0 : ((hi 6 2) = (-1)) → Q (some (.int (1))) (ij_SH, hi, hl, ij_HR)) (q1 : ¬ ((hi 6 2) = (-1)) → Q (some (.int (0))) (ij_SH, hi, hl, ij_HR)) : ij_R (ij_xt N xs) 35 0 [some (.ref 6)] [] (ij_SH, hi, hl, ij_HR) Q := by
  refine ij_br 4 ((hi 6 2) = (-1)) 8 12 [some (.ref 6)] [] (ij_SH, hi, hl, ij_HR) (fun n => rfl) (fun c1 => ?_) (fun c1 => ?_)
  · skip
    exact ij_ret 3 (some (.int (1))) (ij_SH, hi, hl, ij_HR) (fun n => rfl) (q0 c1)
  · skip
    exact ij_ret 2 (some (.int (0))) (ij_SH, hi, hl, ij_HR) (fun n => rfl) (q1 c1)
set_option maxRecDepth 10000 in
-- ScaleForge$Tray.isMissing()Z
theorem s35_8 {N : Nat} {xs : Nat → Int32} {hi : Nat → Nat → Int32} {hl : Nat → Nat → Int64} {Q : Option Value → ij_H → Prop} (q0 : ((hi 8 2) = (-1)) → Q (some (.int (1))) (ij_SH, hi, hl, ij_HR)) (q1 : ¬ ((hi 8 2) = (-1)) → Q (some (.int (0))) (ij_SH, hi, hl, ij_HR)) : ij_R (ij_xt N xs) 35 0 [some (.ref 8)] [] (ij_SH, hi, hl, ij_HR) Q := by
  refine ij_br 4 ((hi 8 2) = (-1)) 8 12 [some (.ref 8)] [] (ij_SH, hi, hl, ij_HR) (fun n => rfl) (fun c1 => ?_) (fun c1 => ?_)
  · skip
    exact ij_ret 3 (some (.int (1))) (ij_SH, hi, hl, ij_HR) (fun n => rfl) (q0 c1)
  · skip
    exact ij_ret 2 (some (.int (0))) (ij_SH, hi, hl, ij_HR) (fun n => rfl) (q1 c1)
set_option maxRecDepth 10000 in
-- ScaleForge$Tray.hasPlace(I)Z
theorem s36_2 {N : Nat} {xs : Nat → Int32} {hi : Nat → Nat → Int32} {hl : Nat → Nat → Int64} {Q : Option Value → ij_H → Prop} (a0 : Int32) (q0 : (a0 < 0) → Q (some (.int (0))) (ij_SH, hi, hl, ij_HR)) (q1 : ¬ (a0 < 0) → ((hi 2 2) ≤ a0) → Q (some (.int (0))) (ij_SH, hi, hl, ij_HR)) (q2 : ¬ (a0 < 0) → ¬ ((hi 2 2) ≤ a0) → (60 ≤ a0) → Q (some (.int (0))) (ij_SH, hi, hl, ij_HR)) (q3 : ¬ (a0 < 0) → ¬ ((hi 2 2) ≤ a0) → ¬ (60 ≤ a0) → Q (some (.int (1))) (ij_SH, hi, hl, ij_HR)) : ij_R (ij_xt N xs) 36 0 [some (.ref 2), some (.int a0)] [] (ij_SH, hi, hl, ij_HR) Q := by
  refine ij_br 2 (a0 < 0) 25 4 [some (.ref 2), some (.int a0)] [] (ij_SH, hi, hl, ij_HR) (fun n => rfl) (fun c1 => ?_) (fun c1 => ?_)
  · skip
    exact ij_ret 2 (some (.int (0))) (ij_SH, hi, hl, ij_HR) (fun n => rfl) (q0 c1)
  · skip
    refine ij_br 4 ((hi 2 2) ≤ a0) 25 12 [some (.ref 2), some (.int a0)] [] (ij_SH, hi, hl, ij_HR) (fun n => rfl) (fun c2 => ?_) (fun c2 => ?_)
    · skip
      exact ij_ret 2 (some (.int (0))) (ij_SH, hi, hl, ij_HR) (fun n => rfl) (q1 c1 c2)
    · skip
      refine ij_br 5 (60 ≤ a0) 25 21 [some (.ref 2), some (.int a0)] [] (ij_SH, hi, hl, ij_HR) (fun n => rfl) (fun c3 => ?_) (fun c3 => ?_)
      · skip
        exact ij_ret 2 (some (.int (0))) (ij_SH, hi, hl, ij_HR) (fun n => rfl) (q2 c1 c2 c3)
      · skip
        exact ij_ret 3 (some (.int (1))) (ij_SH, hi, hl, ij_HR) (fun n => rfl) (q3 c1 c2 c3)
set_option maxRecDepth 10000 in
-- ScaleForge$Tray.hasPlace(I)Z
theorem s36_4 {N : Nat} {xs : Nat → Int32} {hi : Nat → Nat → Int32} {hl : Nat → Nat → Int64} {Q : Option Value → ij_H → Prop} (a0 : Int32) (q0 : (a0 < 0) → Q (some (.int (0))) (ij_SH, hi, hl, ij_HR)) (q1 : ¬ (a0 < 0) → ((hi 4 2) ≤ a0) → Q (some (.int (0))) (ij_SH, hi, hl, ij_HR)) (q2 : ¬ (a0 < 0) → ¬ ((hi 4 2) ≤ a0) → (60 ≤ a0) → Q (some (.int (0))) (ij_SH, hi, hl, ij_HR)) (q3 : ¬ (a0 < 0) → ¬ ((hi 4 2) ≤ a0) → ¬ (60 ≤ a0) → Q (some (.int (1))) (ij_SH, hi, hl, ij_HR)) : ij_R (ij_xt N xs) 36 0 [some (.ref 4), some (.int a0)] [] (ij_SH, hi, hl, ij_HR) Q := by
  refine ij_br 2 (a0 < 0) 25 4 [some (.ref 4), some (.int a0)] [] (ij_SH, hi, hl, ij_HR) (fun n => rfl) (fun c1 => ?_) (fun c1 => ?_)
  · skip
    exact ij_ret 2 (some (.int (0))) (ij_SH, hi, hl, ij_HR) (fun n => rfl) (q0 c1)
  · skip
    refine ij_br 4 ((hi 4 2) ≤ a0) 25 12 [some (.ref 4), some (.int a0)] [] (ij_SH, hi, hl, ij_HR) (fun n => rfl) (fun c2 => ?_) (fun c2 => ?_)
    · skip
      exact ij_ret 2 (some (.int (0))) (ij_SH, hi, hl, ij_HR) (fun n => rfl) (q1 c1 c2)
    · skip
      refine ij_br 5 (60 ≤ a0) 25 21 [some (.ref 4), some (.int a0)] [] (ij_SH, hi, hl, ij_HR) (fun n => rfl) (fun c3 => ?_) (fun c3 => ?_)
      · skip
        exact ij_ret 2 (some (.int (0))) (ij_SH, hi, hl, ij_HR) (fun n => rfl) (q2 c1 c2 c3)
      · skip
        exact ij_ret 3 (some (.int (1))) (ij_SH, hi, hl, ij_HR) (fun n => rfl) (q3 c1 c2 c3)
set_option maxRecDepth 10000 in
-- ScaleForge$Tray.hasPlace(I)Z
theorem s36_6 {N : Nat} {xs : Nat → Int32} {hi : Nat → Nat → Int32} {hl : Nat → Nat → Int64} {Q : Option Value → ij_H → Prop} (a0 : Int32) (q0 : (a0 < 0) → Q (some (.int (0))) (ij_SH, hi, hl, ij_HR)) (q1 : ¬ (a0 < 0) → ((hi 6 2) ≤ a0) → Q (some (.int (0))) (ij_SH, hi, hl, ij_HR)) (q2 : ¬ (a0 < 0) → ¬ ((hi 6 2) ≤ a0) → (60 ≤ a0) → Q (some (.int (0))) (ij_SH, hi, hl, ij_HR)) (q3 : ¬ (a0 < 0) → ¬ ((hi 6 2) ≤ a0) → ¬ (60 ≤ a0) → Q (some (.int (1))) (ij_SH, hi, hl, ij_HR)) : ij_R (ij_xt N xs) 36 0 [some (.ref 6), some (.int a0)] [] (ij_SH, hi, hl, ij_HR) Q := by
  refine ij_br 2 (a0 < 0) 25 4 [some (.ref 6), some (.int a0)] [] (ij_SH, hi, hl, ij_HR) (fun n => rfl) (fun c1 => ?_) (fun c1 => ?_)
  · skip
    exact ij_ret 2 (some (.int (0))) (ij_SH, hi, hl, ij_HR) (fun n => rfl) (q0 c1)
  · skip
    refine ij_br 4 ((hi 6 2) ≤ a0) 25 12 [some (.ref 6), some (.int a0)] [] (ij_SH, hi, hl, ij_HR) (fun n => rfl) (fun c2 => ?_) (fun c2 => ?_)
    · skip
      exact ij_ret 2 (some (.int (0))) (ij_SH, hi, hl, ij_HR) (fun n => rfl) (q1 c1 c2)
    · skip
      refine ij_br 5 (60 ≤ a0) 25 21 [some (.ref 6), some (.int a0)] [] (ij_SH, hi, hl, ij_HR) (fun n => rfl) (fun c3 => ?_) (fun c3 => ?_)
      · skip
        exact ij_ret 2 (some (.int (0))) (ij_SH, hi, hl, ij_HR) (fun n => rfl) (q2 c1 c2 c3)
      · skip
        exact ij_ret 3 (some (.int (1))) (ij_SH, hi, hl, ij_HR) (fun n => rfl) (q3 c1 c2 c3)
set_option maxRecDepth 10000 in
-- ScaleForge$Tray.hasPlace(I)Z
theorem s36_8 {N : Nat} {xs : Nat → Int32} {hi : Nat → Nat → Int32} {hl : Nat → Nat → Int64} {Q : Option Value → ij_H → Prop} (a0 : Int32) (q0 : (a0 < 0) → Q (some (.int (0))) (ij_SH, hi, hl, ij_HR)) (q1 : ¬ (a0 < 0) → ((hi 8 2) ≤ a0) → Q (some (.int (0))) (ij_SH, hi, hl, ij_HR)) (q2 : ¬ (a0 < 0) → ¬ ((hi 8 2) ≤ a0) → (60 ≤ a0) → Q (some (.int (0))) (ij_SH, hi, hl, ij_HR)) (q3 : ¬ (a0 < 0) → ¬ ((hi 8 2) ≤ a0) → ¬ (60 ≤ a0) → Q (some (.int (1))) (ij_SH, hi, hl, ij_HR)) : ij_R (ij_xt N xs) 36 0 [some (.ref 8), some (.int a0)] [] (ij_SH, hi, hl, ij_HR) Q := by
  refine ij_br 2 (a0 < 0) 25 4 [some (.ref 8), some (.int a0)] [] (ij_SH, hi, hl, ij_HR) (fun n => rfl) (fun c1 => ?_) (fun c1 => ?_)
  · skip
    exact ij_ret 2 (some (.int (0))) (ij_SH, hi, hl, ij_HR) (fun n => rfl) (q0 c1)
  · skip
    refine ij_br 4 ((hi 8 2) ≤ a0) 25 12 [some (.ref 8), some (.int a0)] [] (ij_SH, hi, hl, ij_HR) (fun n => rfl) (fun c2 => ?_) (fun c2 => ?_)
    · skip
      exact ij_ret 2 (some (.int (0))) (ij_SH, hi, hl, ij_HR) (fun n => rfl) (q1 c1 c2)
    · skip
      refine ij_br 5 (60 ≤ a0) 25 21 [some (.ref 8), some (.int a0)] [] (ij_SH, hi, hl, ij_HR) (fun n => rfl) (fun c3 => ?_) (fun c3 => ?_)
      · skip
        exact ij_ret 2 (some (.int (0))) (ij_SH, hi, hl, ij_HR) (fun n => rfl) (q2 c1 c2 c3)
      · skip
        exact ij_ret 3 (some (.int (1))) (ij_SH, hi, hl, ij_HR) (fun n => rfl) (q3 c1 c2 c3)
set_option maxRecDepth 10000 in
-- ScaleForge$Tray.cut(J)J
theorem s38_2 {N : Nat} {xs : Nat → Int32} {hi : Nat → Nat → Int32} {hl : Nat → Nat → Int64} {Q : Option Value → ij_H → Prop} (a0 : Int64) (q0 : ((hi 2 1) = 0) → Q (some (.long ((((a0 : Int64).toInt32 : Int32).toInt8.toInt32 : Int32).toInt64))) (ij_SH, hi, hl, ij_HR)) (q1 : ¬ ((hi 2 1) = 0) → ((hi 2 1) = 1) → Q (some (.long ((((a0 : Int64).toInt32 : Int32).toInt16.toInt32 : Int32).toInt64))) (ij_SH, hi, hl, ij_HR)) (q2 : ¬ ((hi 2 1) = 0) → ¬ ((hi 2 1) = 1) → ((hi 2 1) = 2) → Q (some (.long (((a0 : Int64).toInt32 : Int32).toInt64))) (ij_SH, hi, hl, ij_HR)) (q3 : ¬ ((hi 2 1) = 0) → ¬ ((hi 2 1) = 1) → ¬ ((hi 2 1) = 2) → Q (some (.long a0)) (ij_SH, hi, hl, ij_HR)) : ij_R (ij_xt N xs) 38 0 [some (.ref 2), some (.long a0), none] [] (ij_SH, hi, hl, ij_HR) Q := by
  refine ij_go 2 4 [some (.ref 2), some (.long a0), none] [.int ((hi 2 1))] (ij_SH, hi, hl, ij_HR) (fun n => rfl) ?_
  by_cases c1 : (hi 2 1) = 0
  · skip
    refine ij_tsw (x := (hi 2 1)) (v := 0) rfl c1 (tgt := 32) rfl ?_
    exact ij_ret 5 (some (.long ((((a0 : Int64).toInt32 : Int32).toInt8.toInt32 : Int32).toInt64))) (ij_SH, hi, hl, ij_HR) (fun n => rfl) (q0 c1)
  by_cases c2 : (hi 2 1) = 1
  · skip
    refine ij_tsw (x := (hi 2 1)) (v := 1) rfl c2 (tgt := 37) rfl ?_
    exact ij_ret 5 (some (.long ((((a0 : Int64).toInt32 : Int32).toInt16.toInt32 : Int32).toInt64))) (ij_SH, hi, hl, ij_HR) (fun n => rfl) (q1 c1 c2)
  by_cases c3 : (hi 2 1) = 2
  · skip
    refine ij_tsw (x := (hi 2 1)) (v := 2) rfl c3 (tgt := 42) rfl ?_
    exact ij_ret 4 (some (.long (((a0 : Int64).toInt32 : Int32).toInt64))) (ij_SH, hi, hl, ij_HR) (fun n => rfl) (q2 c1 c2 c3)
  refine ij_tsd3 (x := (hi 2 1)) rfl c1 c2 c3 (tgt := 46) rfl rfl rfl rfl rfl ?_
  exact ij_ret 2 (some (.long a0)) (ij_SH, hi, hl, ij_HR) (fun n => rfl) (q3 c1 c2 c3)
def f38_2 (a0 : Int64) (hi : Nat → Nat → Int32) (hl : Nat → Nat → Int64) : Int64 := if (hi 2 1) = 0 then ((((a0 : Int64).toInt32 : Int32).toInt8.toInt32 : Int32).toInt64) else (if (hi 2 1) = 1 then ((((a0 : Int64).toInt32 : Int32).toInt16.toInt32 : Int32).toInt64) else (if (hi 2 1) = 2 then (((a0 : Int64).toInt32 : Int32).toInt64) else (a0)))
theorem t38_2 {N : Nat} {xs : Nat → Int32} {hi : Nat → Nat → Int32} {hl : Nat → Nat → Int64} {Q : Option Value → ij_H → Prop} (a0 : Int64) (q : Q (some (.long (f38_2 a0 hi hl))) (ij_SH, hi, hl, ij_HR)) : ij_R (ij_xt N xs) 38 0 [some (.ref 2), some (.long a0), none] [] (ij_SH, hi, hl, ij_HR) Q :=
  s38_2 a0 (fun k0 => by rw [f38_2, if_pos k0] at q; exact q) (fun k0 k1 => by rw [f38_2, if_neg k0, if_pos k1] at q; exact q) (fun k0 k1 k2 => by rw [f38_2, if_neg k0, if_neg k1, if_pos k2] at q; exact q) (fun k0 k1 k2 => by rw [f38_2, if_neg k0, if_neg k1, if_neg k2] at q; exact q)
set_option maxRecDepth 10000 in
-- ScaleForge$Tray.cut(J)J
theorem s38_4 {N : Nat} {xs : Nat → Int32} {hi : Nat → Nat → Int32} {hl : Nat → Nat → Int64} {Q : Option Value → ij_H → Prop} (a0 : Int64) (q0 : ((hi 4 1) = 0) → Q (some (.long ((((a0 : Int64).toInt32 : Int32).toInt8.toInt32 : Int32).toInt64))) (ij_SH, hi, hl, ij_HR)) (q1 : ¬ ((hi 4 1) = 0) → ((hi 4 1) = 1) → Q (some (.long ((((a0 : Int64).toInt32 : Int32).toInt16.toInt32 : Int32).toInt64))) (ij_SH, hi, hl, ij_HR)) (q2 : ¬ ((hi 4 1) = 0) → ¬ ((hi 4 1) = 1) → ((hi 4 1) = 2) → Q (some (.long (((a0 : Int64).toInt32 : Int32).toInt64))) (ij_SH, hi, hl, ij_HR)) (q3 : ¬ ((hi 4 1) = 0) → ¬ ((hi 4 1) = 1) → ¬ ((hi 4 1) = 2) → Q (some (.long a0)) (ij_SH, hi, hl, ij_HR)) : ij_R (ij_xt N xs) 38 0 [some (.ref 4), some (.long a0), none] [] (ij_SH, hi, hl, ij_HR) Q := by
  refine ij_go 2 4 [some (.ref 4), some (.long a0), none] [.int ((hi 4 1))] (ij_SH, hi, hl, ij_HR) (fun n => rfl) ?_
  by_cases c1 : (hi 4 1) = 0
  · skip
    refine ij_tsw (x := (hi 4 1)) (v := 0) rfl c1 (tgt := 32) rfl ?_
    exact ij_ret 5 (some (.long ((((a0 : Int64).toInt32 : Int32).toInt8.toInt32 : Int32).toInt64))) (ij_SH, hi, hl, ij_HR) (fun n => rfl) (q0 c1)
  by_cases c2 : (hi 4 1) = 1
  · skip
    refine ij_tsw (x := (hi 4 1)) (v := 1) rfl c2 (tgt := 37) rfl ?_
    exact ij_ret 5 (some (.long ((((a0 : Int64).toInt32 : Int32).toInt16.toInt32 : Int32).toInt64))) (ij_SH, hi, hl, ij_HR) (fun n => rfl) (q1 c1 c2)
  by_cases c3 : (hi 4 1) = 2
  · skip
    refine ij_tsw (x := (hi 4 1)) (v := 2) rfl c3 (tgt := 42) rfl ?_
    exact ij_ret 4 (some (.long (((a0 : Int64).toInt32 : Int32).toInt64))) (ij_SH, hi, hl, ij_HR) (fun n => rfl) (q2 c1 c2 c3)
  refine ij_tsd3 (x := (hi 4 1)) rfl c1 c2 c3 (tgt := 46) rfl rfl rfl rfl rfl ?_
  exact ij_ret 2 (some (.long a0)) (ij_SH, hi, hl, ij_HR) (fun n => rfl) (q3 c1 c2 c3)
def f38_4 (a0 : Int64) (hi : Nat → Nat → Int32) (hl : Nat → Nat → Int64) : Int64 := if (hi 4 1) = 0 then ((((a0 : Int64).toInt32 : Int32).toInt8.toInt32 : Int32).toInt64) else (if (hi 4 1) = 1 then ((((a0 : Int64).toInt32 : Int32).toInt16.toInt32 : Int32).toInt64) else (if (hi 4 1) = 2 then (((a0 : Int64).toInt32 : Int32).toInt64) else (a0)))
theorem t38_4 {N : Nat} {xs : Nat → Int32} {hi : Nat → Nat → Int32} {hl : Nat → Nat → Int64} {Q : Option Value → ij_H → Prop} (a0 : Int64) (q : Q (some (.long (f38_4 a0 hi hl))) (ij_SH, hi, hl, ij_HR)) : ij_R (ij_xt N xs) 38 0 [some (.ref 4), some (.long a0), none] [] (ij_SH, hi, hl, ij_HR) Q :=
  s38_4 a0 (fun k0 => by rw [f38_4, if_pos k0] at q; exact q) (fun k0 k1 => by rw [f38_4, if_neg k0, if_pos k1] at q; exact q) (fun k0 k1 k2 => by rw [f38_4, if_neg k0, if_neg k1, if_pos k2] at q; exact q) (fun k0 k1 k2 => by rw [f38_4, if_neg k0, if_neg k1, if_neg k2] at q; exact q)
set_option maxRecDepth 10000 in
-- ScaleForge$Tray.cut(J)J
theorem s38_6 {N : Nat} {xs : Nat → Int32} {hi : Nat → Nat → Int32} {hl : Nat → Nat → Int64} {Q : Option Value → ij_H → Prop} (a0 : Int64) (q0 : ((hi 6 1) = 0) → Q (some (.long ((((a0 : Int64).toInt32 : Int32).toInt8.toInt32 : Int32).toInt64))) (ij_SH, hi, hl, ij_HR)) (q1 : ¬ ((hi 6 1) = 0) → ((hi 6 1) = 1) → Q (some (.long ((((a0 : Int64).toInt32 : Int32).toInt16.toInt32 : Int32).toInt64))) (ij_SH, hi, hl, ij_HR)) (q2 : ¬ ((hi 6 1) = 0) → ¬ ((hi 6 1) = 1) → ((hi 6 1) = 2) → Q (some (.long (((a0 : Int64).toInt32 : Int32).toInt64))) (ij_SH, hi, hl, ij_HR)) (q3 : ¬ ((hi 6 1) = 0) → ¬ ((hi 6 1) = 1) → ¬ ((hi 6 1) = 2) → Q (some (.long a0)) (ij_SH, hi, hl, ij_HR)) : ij_R (ij_xt N xs) 38 0 [some (.ref 6), some (.long a0), none] [] (ij_SH, hi, hl, ij_HR) Q := by
  refine ij_go 2 4 [some (.ref 6), some (.long a0), none] [.int ((hi 6 1))] (ij_SH, hi, hl, ij_HR) (fun n => rfl) ?_
  by_cases c1 : (hi 6 1) = 0
  · skip
    refine ij_tsw (x := (hi 6 1)) (v := 0) rfl c1 (tgt := 32) rfl ?_
    exact ij_ret 5 (some (.long ((((a0 : Int64).toInt32 : Int32).toInt8.toInt32 : Int32).toInt64))) (ij_SH, hi, hl, ij_HR) (fun n => rfl) (q0 c1)
  by_cases c2 : (hi 6 1) = 1
  · skip
    refine ij_tsw (x := (hi 6 1)) (v := 1) rfl c2 (tgt := 37) rfl ?_
    exact ij_ret 5 (some (.long ((((a0 : Int64).toInt32 : Int32).toInt16.toInt32 : Int32).toInt64))) (ij_SH, hi, hl, ij_HR) (fun n => rfl) (q1 c1 c2)
  by_cases c3 : (hi 6 1) = 2
  · skip
    refine ij_tsw (x := (hi 6 1)) (v := 2) rfl c3 (tgt := 42) rfl ?_
    exact ij_ret 4 (some (.long (((a0 : Int64).toInt32 : Int32).toInt64))) (ij_SH, hi, hl, ij_HR) (fun n => rfl) (q2 c1 c2 c3)
  refine ij_tsd3 (x := (hi 6 1)) rfl c1 c2 c3 (tgt := 46) rfl rfl rfl rfl rfl ?_
  exact ij_ret 2 (some (.long a0)) (ij_SH, hi, hl, ij_HR) (fun n => rfl) (q3 c1 c2 c3)
def f38_6 (a0 : Int64) (hi : Nat → Nat → Int32) (hl : Nat → Nat → Int64) : Int64 := if (hi 6 1) = 0 then ((((a0 : Int64).toInt32 : Int32).toInt8.toInt32 : Int32).toInt64) else (if (hi 6 1) = 1 then ((((a0 : Int64).toInt32 : Int32).toInt16.toInt32 : Int32).toInt64) else (if (hi 6 1) = 2 then (((a0 : Int64).toInt32 : Int32).toInt64) else (a0)))
theorem t38_6 {N : Nat} {xs : Nat → Int32} {hi : Nat → Nat → Int32} {hl : Nat → Nat → Int64} {Q : Option Value → ij_H → Prop} (a0 : Int64) (q : Q (some (.long (f38_6 a0 hi hl))) (ij_SH, hi, hl, ij_HR)) : ij_R (ij_xt N xs) 38 0 [some (.ref 6), some (.long a0), none] [] (ij_SH, hi, hl, ij_HR) Q :=
  s38_6 a0 (fun k0 => by rw [f38_6, if_pos k0] at q; exact q) (fun k0 k1 => by rw [f38_6, if_neg k0, if_pos k1] at q; exact q) (fun k0 k1 k2 => by rw [f38_6, if_neg k0, if_neg k1, if_pos k2] at q; exact q) (fun k0 k1 k2 => by rw [f38_6, if_neg k0, if_neg k1, if_neg k2] at q; exact q)
set_option maxRecDepth 10000 in
-- ScaleForge$Tray.cut(J)J
theorem s38_8 {N : Nat} {xs : Nat → Int32} {hi : Nat → Nat → Int32} {hl : Nat → Nat → Int64} {Q : Option Value → ij_H → Prop} (a0 : Int64) (q0 : ((hi 8 1) = 0) → Q (some (.long ((((a0 : Int64).toInt32 : Int32).toInt8.toInt32 : Int32).toInt64))) (ij_SH, hi, hl, ij_HR)) (q1 : ¬ ((hi 8 1) = 0) → ((hi 8 1) = 1) → Q (some (.long ((((a0 : Int64).toInt32 : Int32).toInt16.toInt32 : Int32).toInt64))) (ij_SH, hi, hl, ij_HR)) (q2 : ¬ ((hi 8 1) = 0) → ¬ ((hi 8 1) = 1) → ((hi 8 1) = 2) → Q (some (.long (((a0 : Int64).toInt32 : Int32).toInt64))) (ij_SH, hi, hl, ij_HR)) (q3 : ¬ ((hi 8 1) = 0) → ¬ ((hi 8 1) = 1) → ¬ ((hi 8 1) = 2) → Q (some (.long a0)) (ij_SH, hi, hl, ij_HR)) : ij_R (ij_xt N xs) 38 0 [some (.ref 8), some (.long a0), none] [] (ij_SH, hi, hl, ij_HR) Q := by
  refine ij_go 2 4 [some (.ref 8), some (.long a0), none] [.int ((hi 8 1))] (ij_SH, hi, hl, ij_HR) (fun n => rfl) ?_
  by_cases c1 : (hi 8 1) = 0
  · skip
    refine ij_tsw (x := (hi 8 1)) (v := 0) rfl c1 (tgt := 32) rfl ?_
    exact ij_ret 5 (some (.long ((((a0 : Int64).toInt32 : Int32).toInt8.toInt32 : Int32).toInt64))) (ij_SH, hi, hl, ij_HR) (fun n => rfl) (q0 c1)
  by_cases c2 : (hi 8 1) = 1
  · skip
    refine ij_tsw (x := (hi 8 1)) (v := 1) rfl c2 (tgt := 37) rfl ?_
    exact ij_ret 5 (some (.long ((((a0 : Int64).toInt32 : Int32).toInt16.toInt32 : Int32).toInt64))) (ij_SH, hi, hl, ij_HR) (fun n => rfl) (q1 c1 c2)
  by_cases c3 : (hi 8 1) = 2
  · skip
    refine ij_tsw (x := (hi 8 1)) (v := 2) rfl c3 (tgt := 42) rfl ?_
    exact ij_ret 4 (some (.long (((a0 : Int64).toInt32 : Int32).toInt64))) (ij_SH, hi, hl, ij_HR) (fun n => rfl) (q2 c1 c2 c3)
  refine ij_tsd3 (x := (hi 8 1)) rfl c1 c2 c3 (tgt := 46) rfl rfl rfl rfl rfl ?_
  exact ij_ret 2 (some (.long a0)) (ij_SH, hi, hl, ij_HR) (fun n => rfl) (q3 c1 c2 c3)
def f38_8 (a0 : Int64) (hi : Nat → Nat → Int32) (hl : Nat → Nat → Int64) : Int64 := if (hi 8 1) = 0 then ((((a0 : Int64).toInt32 : Int32).toInt8.toInt32 : Int32).toInt64) else (if (hi 8 1) = 1 then ((((a0 : Int64).toInt32 : Int32).toInt16.toInt32 : Int32).toInt64) else (if (hi 8 1) = 2 then (((a0 : Int64).toInt32 : Int32).toInt64) else (a0)))
theorem t38_8 {N : Nat} {xs : Nat → Int32} {hi : Nat → Nat → Int32} {hl : Nat → Nat → Int64} {Q : Option Value → ij_H → Prop} (a0 : Int64) (q : Q (some (.long (f38_8 a0 hi hl))) (ij_SH, hi, hl, ij_HR)) : ij_R (ij_xt N xs) 38 0 [some (.ref 8), some (.long a0), none] [] (ij_SH, hi, hl, ij_HR) Q :=
  s38_8 a0 (fun k0 => by rw [f38_8, if_pos k0] at q; exact q) (fun k0 k1 => by rw [f38_8, if_neg k0, if_pos k1] at q; exact q) (fun k0 k1 k2 => by rw [f38_8, if_neg k0, if_neg k1, if_pos k2] at q; exact q) (fun k0 k1 k2 => by rw [f38_8, if_neg k0, if_neg k1, if_neg k2] at q; exact q)
set_option maxRecDepth 10000 in
-- ScaleForge$Tray.put(IJ)V
theorem s39_2 {N : Nat} {xs : Nat → Int32} {hi : Nat → Nat → Int32} {hl : Nat → Nat → Int64} {Q : Option Value → ij_H → Prop} (a0 : Int32) (a1 : Int64) (q0 : (a0 < 0) → Q (none) (ij_SH, hi, hl, ij_HR)) (q1 : ¬ (a0 < 0) → ((hi 2 2) ≤ a0) → Q (none) (ij_SH, hi, hl, ij_HR)) (q2 : ¬ (a0 < 0) → ¬ ((hi 2 2) ≤ a0) → (60 ≤ a0) → Q (none) (ij_SH, hi, hl, ij_HR)) (q3 : ¬ (a0 < 0) → ¬ ((hi 2 2) ≤ a0) → ¬ (60 ≤ a0) → Q (none) (ij_SH, hi, (ij_ul hl 3 (a0).toNatClampNeg (f38_2 a1 hi hl)), ij_HR)) : ij_R (ij_xt N xs) 39 0 [some (.ref 2), some (.int a0), some (.long a1), none] [] (ij_SH, hi, hl, ij_HR) Q := by
  refine ij_call 3 36 [some (.ref 2), some (.int a0)] [] 5 [some (.ref 2), some (.int a0), some (.long a1), none] (ij_SH, hi, hl, ij_HR) (fun n => rfl) (s36_2 a0 (fun c1 => ?_) (fun c2 c3 => ?_) (fun c4 c5 c6 => ?_) (fun c7 c8 c9 => ?_))
  · skip
    exact ij_ret 2 (none) (ij_SH, hi, hl, ij_HR) (fun n => rfl) (q0 c1)
  · skip
    exact ij_ret 2 (none) (ij_SH, hi, hl, ij_HR) (fun n => rfl) (q1 c2 c3)
  · skip
    exact ij_ret 2 (none) (ij_SH, hi, hl, ij_HR) (fun n => rfl) (q2 c4 c5 c6)
  · skip
    refine ij_call 7 38 [some (.ref 2), some (.long a1), none] [.int a0, .ref 3] 18 [some (.ref 2), some (.int a0), some (.long a1), none] (ij_SH, hi, hl, ij_HR) (fun n => rfl) (t38_2 a1 ?_)
    -- back
    refine ij_las rfl rfl rfl (ij_bd c7 (Int32.not_le.mp c9) (by decide)) ?_
    exact ij_ret 1 (none) (ij_SH, hi, (ij_ul hl 3 (a0).toNatClampNeg (f38_2 a1 hi hl)), ij_HR) (fun n => rfl) (q3 c7 c8 c9)
set_option maxRecDepth 10000 in
-- ScaleForge$Tray.put(IJ)V
theorem s39_4 {N : Nat} {xs : Nat → Int32} {hi : Nat → Nat → Int32} {hl : Nat → Nat → Int64} {Q : Option Value → ij_H → Prop} (a0 : Int32) (a1 : Int64) (q0 : (a0 < 0) → Q (none) (ij_SH, hi, hl, ij_HR)) (q1 : ¬ (a0 < 0) → ((hi 4 2) ≤ a0) → Q (none) (ij_SH, hi, hl, ij_HR)) (q2 : ¬ (a0 < 0) → ¬ ((hi 4 2) ≤ a0) → (60 ≤ a0) → Q (none) (ij_SH, hi, hl, ij_HR)) (q3 : ¬ (a0 < 0) → ¬ ((hi 4 2) ≤ a0) → ¬ (60 ≤ a0) → Q (none) (ij_SH, hi, (ij_ul hl 5 (a0).toNatClampNeg (f38_4 a1 hi hl)), ij_HR)) : ij_R (ij_xt N xs) 39 0 [some (.ref 4), some (.int a0), some (.long a1), none] [] (ij_SH, hi, hl, ij_HR) Q := by
  refine ij_call 3 36 [some (.ref 4), some (.int a0)] [] 5 [some (.ref 4), some (.int a0), some (.long a1), none] (ij_SH, hi, hl, ij_HR) (fun n => rfl) (s36_4 a0 (fun c1 => ?_) (fun c2 c3 => ?_) (fun c4 c5 c6 => ?_) (fun c7 c8 c9 => ?_))
  · skip
    exact ij_ret 2 (none) (ij_SH, hi, hl, ij_HR) (fun n => rfl) (q0 c1)
  · skip
    exact ij_ret 2 (none) (ij_SH, hi, hl, ij_HR) (fun n => rfl) (q1 c2 c3)
  · skip
    exact ij_ret 2 (none) (ij_SH, hi, hl, ij_HR) (fun n => rfl) (q2 c4 c5 c6)
  · skip
    refine ij_call 7 38 [some (.ref 4), some (.long a1), none] [.int a0, .ref 5] 18 [some (.ref 4), some (.int a0), some (.long a1), none] (ij_SH, hi, hl, ij_HR) (fun n => rfl) (t38_4 a1 ?_)
    -- back
    refine ij_las rfl rfl rfl (ij_bd c7 (Int32.not_le.mp c9) (by decide)) ?_
    exact ij_ret 1 (none) (ij_SH, hi, (ij_ul hl 5 (a0).toNatClampNeg (f38_4 a1 hi hl)), ij_HR) (fun n => rfl) (q3 c7 c8 c9)
set_option maxRecDepth 10000 in
-- ScaleForge$Tray.put(IJ)V
theorem s39_6 {N : Nat} {xs : Nat → Int32} {hi : Nat → Nat → Int32} {hl : Nat → Nat → Int64} {Q : Option Value → ij_H → Prop} (a0 : Int32) (a1 : Int64) (q0 : (a0 < 0) → Q (none) (ij_SH, hi, hl, ij_HR)) (q1 : ¬ (a0 < 0) → ((hi 6 2) ≤ a0) → Q (none) (ij_SH, hi, hl, ij_HR)) (q2 : ¬ (a0 < 0) → ¬ ((hi 6 2) ≤ a0) → (60 ≤ a0) → Q (none) (ij_SH, hi, hl, ij_HR)) (q3 : ¬ (a0 < 0) → ¬ ((hi 6 2) ≤ a0) → ¬ (60 ≤ a0) → Q (none) (ij_SH, hi, (ij_ul hl 7 (a0).toNatClampNeg (f38_6 a1 hi hl)), ij_HR)) : ij_R (ij_xt N xs) 39 0 [some (.ref 6), some (.int a0), some (.long a1), none] [] (ij_SH, hi, hl, ij_HR) Q := by
  refine ij_call 3 36 [some (.ref 6), some (.int a0)] [] 5 [some (.ref 6), some (.int a0), some (.long a1), none] (ij_SH, hi, hl, ij_HR) (fun n => rfl) (s36_6 a0 (fun c1 => ?_) (fun c2 c3 => ?_) (fun c4 c5 c6 => ?_) (fun c7 c8 c9 => ?_))
  · skip
    exact ij_ret 2 (none) (ij_SH, hi, hl, ij_HR) (fun n => rfl) (q0 c1)
  · skip
    exact ij_ret 2 (none) (ij_SH, hi, hl, ij_HR) (fun n => rfl) (q1 c2 c3)
  · skip
    exact ij_ret 2 (none) (ij_SH, hi, hl, ij_HR) (fun n => rfl) (q2 c4 c5 c6)
  · skip
    refine ij_call 7 38 [some (.ref 6), some (.long a1), none] [.int a0, .ref 7] 18 [some (.ref 6), some (.int a0), some (.long a1), none] (ij_SH, hi, hl, ij_HR) (fun n => rfl) (t38_6 a1 ?_)
    -- back
    refine ij_las rfl rfl rfl (ij_bd c7 (Int32.not_le.mp c9) (by decide)) ?_
    exact ij_ret 1 (none) (ij_SH, hi, (ij_ul hl 7 (a0).toNatClampNeg (f38_6 a1 hi hl)), ij_HR) (fun n => rfl) (q3 c7 c8 c9)
set_option maxRecDepth 10000 in
-- ScaleForge$Tray.put(IJ)V
theorem s39_8 {N : Nat} {xs : Nat → Int32} {hi : Nat → Nat → Int32} {hl : Nat → Nat → Int64} {Q : Option Value → ij_H → Prop} (a0 : Int32) (a1 : Int64) (q0 : (a0 < 0) → Q (none) (ij_SH, hi, hl, ij_HR)) (q1 : ¬ (a0 < 0) → ((hi 8 2) ≤ a0) → Q (none) (ij_SH, hi, hl, ij_HR)) (q2 : ¬ (a0 < 0) → ¬ ((hi 8 2) ≤ a0) → (60 ≤ a0) → Q (none) (ij_SH, hi, hl, ij_HR)) (q3 : ¬ (a0 < 0) → ¬ ((hi 8 2) ≤ a0) → ¬ (60 ≤ a0) → Q (none) (ij_SH, hi, (ij_ul hl 9 (a0).toNatClampNeg (f38_8 a1 hi hl)), ij_HR)) : ij_R (ij_xt N xs) 39 0 [some (.ref 8), some (.int a0), some (.long a1), none] [] (ij_SH, hi, hl, ij_HR) Q := by
  refine ij_call 3 36 [some (.ref 8), some (.int a0)] [] 5 [some (.ref 8), some (.int a0), some (.long a1), none] (ij_SH, hi, hl, ij_HR) (fun n => rfl) (s36_8 a0 (fun c1 => ?_) (fun c2 c3 => ?_) (fun c4 c5 c6 => ?_) (fun c7 c8 c9 => ?_))
  · skip
    exact ij_ret 2 (none) (ij_SH, hi, hl, ij_HR) (fun n => rfl) (q0 c1)
  · skip
    exact ij_ret 2 (none) (ij_SH, hi, hl, ij_HR) (fun n => rfl) (q1 c2 c3)
  · skip
    exact ij_ret 2 (none) (ij_SH, hi, hl, ij_HR) (fun n => rfl) (q2 c4 c5 c6)
  · skip
    refine ij_call 7 38 [some (.ref 8), some (.long a1), none] [.int a0, .ref 9] 18 [some (.ref 8), some (.int a0), some (.long a1), none] (ij_SH, hi, hl, ij_HR) (fun n => rfl) (t38_8 a1 ?_)
    -- back
    refine ij_las rfl rfl rfl (ij_bd c7 (Int32.not_le.mp c9) (by decide)) ?_
    exact ij_ret 1 (none) (ij_SH, hi, (ij_ul hl 9 (a0).toNatClampNeg (f38_8 a1 hi hl)), ij_HR) (fun n => rfl) (q3 c7 c8 c9)
set_option maxRecDepth 10000 in
-- ScaleForgeModel.wrongPlace(II)I
theorem s41_77 {N : Nat} {xs : Nat → Int32} {hi : Nat → Nat → Int32} {hl : Nat → Nat → Int64} {Q : Option Value → ij_H → Prop} (a0 : Int32) (a1 : Int32) (q0 : (a0 < 0) → Q (some (.int (1))) (ij_SH, hi, hl, ij_HR)) (q1 : ¬ (a0 < 0) → (4 ≤ a0) → Q (some (.int (1))) (ij_SH, hi, hl, ij_HR)) (q2 : ¬ (a0 < 0) → ¬ (4 ≤ a0) → ((hi 80 (a0).toNatClampNeg) = (-1)) → Q (some (.int (2))) (ij_SH, hi, hl, ij_HR)) (q3 : ¬ (a0 < 0) → ¬ (4 ≤ a0) → ¬ ((hi 80 (a0).toNatClampNeg) = (-1)) → (a1 < 0) → Q (some (.int (3))) (ij_SH, hi, hl, ij_HR)) (q4 : ¬ (a0 < 0) → ¬ (4 ≤ a0) → ¬ ((hi 80 (a0).toNatClampNeg) = (-1)) → ¬ (a1 < 0) → (a1 < (hi 80 (a0).toNatClampNeg)) → Q (some (.int (0))) (ij_SH, hi, hl, ij_HR)) (q5 : ¬ (a0 < 0) → ¬ (4 ≤ a0) → ¬ ((hi 80 (a0).toNatClampNeg) = (-1)) → ¬ (a1 < 0) → ¬ (a1 < (hi 80 (a0).toNatClampNeg)) → Q (some (.int (3))) (ij_SH, hi, hl, ij_HR)) : ij_R (ij_xt N xs) 41 0 [some (.ref 77), some (.int a0), some (.int a1)] [] (ij_SH, hi, hl, ij_HR) Q := by
  refine ij_call 2 32 [some (.int a0)] [] 4 [some (.ref 77), some (.int a0), some (.int a1)] (ij_SH, hi, hl, ij_HR) (fun n => rfl) (s32 a0 (fun c1 => ?_) (fun c2 c3 => ?_) (fun c4 c5 => ?_))
  · skip
    exact ij_ret 4 (some (.int (1))) (ij_SH, hi, hl, ij_HR) (fun n => rfl) (q0 c1)
  · skip
    exact ij_ret 4 (some (.int (1))) (ij_SH, hi, hl, ij_HR) (fun n => rfl) (q1 c2 c3)
  · skip
    refine ij_go 4 16 [some (.ref 77), some (.int a0), some (.int a1)] [.int a0, .ref 80] (ij_SH, hi, hl, ij_HR) (fun n => rfl) ?_
    refine ij_ial rfl rfl rfl (ij_bd c4 (Int32.not_le.mp c5) (by decide)) ?_
    refine ij_br 2 ((hi 80 (a0).toNatClampNeg) = (-1)) 21 25 [some (.ref 77), some (.int a0), some (.int a1)] [] (ij_SH, hi, hl, ij_HR) (fun n => rfl) (fun c6 => ?_) (fun c6 => ?_)
    · skip
      exact ij_ret 3 (some (.int (2))) (ij_SH, hi, hl, ij_HR) (fun n => rfl) (q2 c4 c5 c6)
    · skip
      refine ij_br 2 (a1 < 0) 39 29 [some (.ref 77), some (.int a0), some (.int a1)] [] (ij_SH, hi, hl, ij_HR) (fun n => rfl) (fun c7 => ?_) (fun c7 => ?_)
      · skip
        exact ij_ret 3 (some (.int (3))) (ij_SH, hi, hl, ij_HR) (fun n => rfl) (q3 c4 c5 c6 c7)
      · skip
        refine ij_go 4 35 [some (.ref 77), some (.int a0), some (.int a1)] [.int a0, .ref 80, .int a1] (ij_SH, hi, hl, ij_HR) (fun n => rfl) ?_
        refine ij_ial rfl rfl rfl (ij_bd c4 (Int32.not_le.mp c5) (by decide)) ?_
        refine ij_br 1 (a1 < (hi 80 (a0).toNatClampNeg)) 43 39 [some (.ref 77), some (.int a0), some (.int a1)] [] (ij_SH, hi, hl, ij_HR) (fun n => rfl) (fun c8 => ?_) (fun c8 => ?_)
        · skip
          exact ij_ret 2 (some (.int (0))) (ij_SH, hi, hl, ij_HR) (fun n => rfl) (q4 c4 c5 c6 c7 c8)
        · skip
          exact ij_ret 3 (some (.int (3))) (ij_SH, hi, hl, ij_HR) (fun n => rfl) (q5 c4 c5 c6 c7 c8)
def f41_77 (a0 : Int32) (a1 : Int32) (hi : Nat → Nat → Int32) (hl : Nat → Nat → Int64) : Int32 := if a0 < 0 then (1) else (if 4 ≤ a0 then (1) else (if (hi 80 (a0).toNatClampNeg) = (-1) then (2) else (if a1 < 0 then (3) else (if a1 < (hi 80 (a0).toNatClampNeg) then (0) else (3)))))
theorem t41_77 {N : Nat} {xs : Nat → Int32} {hi : Nat → Nat → Int32} {hl : Nat → Nat → Int64} {Q : Option Value → ij_H → Prop} (a0 : Int32) (a1 : Int32) (q : Q (some (.int (f41_77 a0 a1 hi hl))) (ij_SH, hi, hl, ij_HR)) : ij_R (ij_xt N xs) 41 0 [some (.ref 77), some (.int a0), some (.int a1)] [] (ij_SH, hi, hl, ij_HR) Q :=
  s41_77 a0 a1 (fun k0 => by rw [f41_77, if_pos k0] at q; exact q) (fun k0 k1 => by rw [f41_77, if_neg k0, if_pos k1] at q; exact q) (fun k0 k1 k2 => by rw [f41_77, if_neg k0, if_neg k1, if_pos k2] at q; exact q) (fun k0 k1 k2 k3 => by rw [f41_77, if_neg k0, if_neg k1, if_neg k2, if_pos k3] at q; exact q) (fun k0 k1 k2 k3 k4 => by rw [f41_77, if_neg k0, if_neg k1, if_neg k2, if_neg k3, if_pos k4] at q; exact q) (fun k0 k1 k2 k3 k4 => by rw [f41_77, if_neg k0, if_neg k1, if_neg k2, if_neg k3, if_neg k4] at q; exact q)
set_option maxRecDepth 10000 in
-- ScaleForgeModel.cut(JI)J
theorem s42 {N : Nat} {xs : Nat → Int32} {hi : Nat → Nat → Int32} {hl : Nat → Nat → Int64} {Q : Option Value → ij_H → Prop} (a0 : Int64) (a1 : Int32) (q0 : (a1 = 0) → Q (some (.long ((((a0 : Int64).toInt32 : Int32).toInt8.toInt32 : Int32).toInt64))) (ij_SH, hi, hl, ij_HR)) (q1 : ¬ (a1 = 0) → (a1 = 1) → Q (some (.long ((((a0 : Int64).toInt32 : Int32).toInt16.toInt32 : Int32).toInt64))) (ij_SH, hi, hl, ij_HR)) (q2 : ¬ (a1 = 0) → ¬ (a1 = 1) → (a1 = 2) → Q (some (.long (((a0 : Int64).toInt32 : Int32).toInt64))) (ij_SH, hi, hl, ij_HR)) (q3 : ¬ (a1 = 0) → ¬ (a1 = 1) → ¬ (a1 = 2) → Q (some (.long a0)) (ij_SH, hi, hl, ij_HR)) : ij_R (ij_xt N xs) 42 0 [some (.long a0), none, some (.int a1)] [] (ij_SH, hi, hl, ij_HR) Q := by
  refine ij_br 2 (a1 = 0) 4 11 [some (.long a0), none, some (.int a1)] [] (ij_SH, hi, hl, ij_HR) (fun n => rfl) (fun c1 => ?_) (fun c1 => ?_)
  · skip
    exact ij_ret 6 (some (.long ((((a0 : Int64).toInt32 : Int32).toInt8.toInt32 : Int32).toInt64))) (ij_SH, hi, hl, ij_HR) (fun n => rfl) (q0 c1)
  · skip
    refine ij_br 3 (a1 = 1) 16 23 [some (.long a0), none, some (.int a1)] [] (ij_SH, hi, hl, ij_HR) (fun n => rfl) (fun c2 => ?_) (fun c2 => ?_)
    · skip
      exact ij_ret 6 (some (.long ((((a0 : Int64).toInt32 : Int32).toInt16.toInt32 : Int32).toInt64))) (ij_SH, hi, hl, ij_HR) (fun n => rfl) (q1 c1 c2)
    · skip
      refine ij_br 3 (a1 = 2) 28 34 [some (.long a0), none, some (.int a1)] [] (ij_SH, hi, hl, ij_HR) (fun n => rfl) (fun c3 => ?_) (fun c3 => ?_)
      · skip
        exact ij_ret 5 (some (.long (((a0 : Int64).toInt32 : Int32).toInt64))) (ij_SH, hi, hl, ij_HR) (fun n => rfl) (q2 c1 c2 c3)
      · skip
        exact ij_ret 2 (some (.long a0)) (ij_SH, hi, hl, ij_HR) (fun n => rfl) (q3 c1 c2 c3)
def f42 (a0 : Int64) (a1 : Int32) (hi : Nat → Nat → Int32) (hl : Nat → Nat → Int64) : Int64 := if a1 = 0 then ((((a0 : Int64).toInt32 : Int32).toInt8.toInt32 : Int32).toInt64) else (if a1 = 1 then ((((a0 : Int64).toInt32 : Int32).toInt16.toInt32 : Int32).toInt64) else (if a1 = 2 then (((a0 : Int64).toInt32 : Int32).toInt64) else (a0)))
theorem t42 {N : Nat} {xs : Nat → Int32} {hi : Nat → Nat → Int32} {hl : Nat → Nat → Int64} {Q : Option Value → ij_H → Prop} (a0 : Int64) (a1 : Int32) (q : Q (some (.long (f42 a0 a1 hi hl))) (ij_SH, hi, hl, ij_HR)) : ij_R (ij_xt N xs) 42 0 [some (.long a0), none, some (.int a1)] [] (ij_SH, hi, hl, ij_HR) Q :=
  s42 a0 a1 (fun k0 => by rw [f42, if_pos k0] at q; exact q) (fun k0 k1 => by rw [f42, if_neg k0, if_pos k1] at q; exact q) (fun k0 k1 k2 => by rw [f42, if_neg k0, if_neg k1, if_pos k2] at q; exact q) (fun k0 k1 k2 => by rw [f42, if_neg k0, if_neg k1, if_neg k2] at q; exact q)
set_option maxRecDepth 10000 in
-- ScaleForgeModel.write(IIJ)Z
theorem s43_77 {N : Nat} {xs : Nat → Int32} {hi : Nat → Nat → Int32} {hl : Nat → Nat → Int64} {Q : Option Value → ij_H → Prop} (a0 : Int32) (a1 : Int32) (a2 : Int64) (b0 : ((f41_77 a0 a1 hi hl) = 0) → ¬ (a0 < 0 ∨ 4 ≤ (a0 : Int32).toNatClampNeg)) (b1 : ((f41_77 a0 a1 hi hl) = 0) → ¬ (((60 * a0) + a1) < 0 ∨ 240 ≤ (((60 * a0) + a1) : Int32).toNatClampNeg)) (q0 : ((f41_77 a0 a1 hi hl) = 0) → Q (some (.int (1))) (ij_SH, (ij_ui hi 77 1 (f41_77 a0 a1 hi hl)), (ij_ul hl 81 (((60 * a0) + a1)).toNatClampNeg (f42 a2 (hi 79 (a0).toNatClampNeg) hi hl)), ij_HR)) (q1 : ¬ ((f41_77 a0 a1 hi hl) = 0) → Q (some (.int (0))) (ij_SH, (ij_ui hi 77 1 (f41_77 a0 a1 hi hl)), hl, ij_HR)) : ij_R (ij_xt N xs) 43 0 [some (.ref 77), some (.int a0), some (.int a1), some (.long a2), none, none] [] (ij_SH, hi, hl, ij_HR) Q := by
  refine ij_call 4 41 [some (.ref 77), some (.int a0), some (.int a1)] [] 6 [some (.ref 77), some (.int a0), some (.int a1), some (.long a2), none, none] (ij_SH, hi, hl, ij_HR) (fun n => rfl) (t41_77 a0 a1 ?_)
  -- back
  refine ij_br 3 ((f41_77 a0 a1 hi hl) = 0) 13 34 [some (.ref 77), some (.int a0), some (.int a1), some (.long a2), none, some (.int ((f41_77 a0 a1 hi hl)))] [] (ij_SH, hi, hl, ij_HR) (fun n => rfl) (fun c1 => ?_) (fun c1 => ?_)
  · skip
    refine ij_go 11 29 [some (.ref 77), some (.int a0), some (.int a1), some (.long a2), none, some (.int ((f41_77 a0 a1 hi hl)))] [.int a0, .ref 79, .long a2, .int (((60 * a0) + a1)), .ref 81] (ij_SH, hi, hl, ij_HR) (fun n => rfl) ?_
    refine ij_ial rfl rfl rfl (b0 c1) ?_
    refine ij_call 1 42 [some (.long a2), none, some (.int ((hi 79 (a0).toNatClampNeg)))] [.int (((60 * a0) + a1)), .ref 81] 33 [some (.ref 77), some (.int a0), some (.int a1), some (.long a2), none, some (.int ((f41_77 a0 a1 hi hl)))] (ij_SH, hi, hl, ij_HR) (fun n => rfl) (t42 a2 (hi 79 (a0).toNatClampNeg) ?_)
    -- back
    refine ij_las rfl rfl rfl (b1 c1) ?_
    refine ij_call 3 33 [some (.ref 77), some (.int ((f41_77 a0 a1 hi hl)))] [] 40 [some (.ref 77), some (.int a0), some (.int a1), some (.long a2), none, some (.int ((f41_77 a0 a1 hi hl)))] (ij_SH, hi, (ij_ul hl 81 (((60 * a0) + a1)).toNatClampNeg (f42 a2 (hi 79 (a0).toNatClampNeg) hi hl)), ij_HR) (fun n => rfl) (s33_77 (f41_77 a0 a1 hi hl) (fun c2 => ?_) (fun c3 => ?_))
    · skip
      exact ij_ret 1 (some (.int (1))) (ij_SH, (ij_ui hi 77 1 (f41_77 a0 a1 hi hl)), (ij_ul hl 81 (((60 * a0) + a1)).toNatClampNeg (f42 a2 (hi 79 (a0).toNatClampNeg) hi hl)), ij_HR) (fun n => rfl) (q0 c1)
    · skip
      exact absurd c1 c3
  · skip
    refine ij_call 3 33 [some (.ref 77), some (.int ((f41_77 a0 a1 hi hl)))] [] 40 [some (.ref 77), some (.int a0), some (.int a1), some (.long a2), none, some (.int ((f41_77 a0 a1 hi hl)))] (ij_SH, hi, hl, ij_HR) (fun n => rfl) (s33_77 (f41_77 a0 a1 hi hl) (fun c4 => ?_) (fun c5 => ?_))
    · skip
      exact absurd c4 c1
    · skip
      exact ij_ret 1 (some (.int (0))) (ij_SH, (ij_ui hi 77 1 (f41_77 a0 a1 hi hl)), hl, ij_HR) (fun n => rfl) (q1 c1)
set_option maxRecDepth 10000 in
-- ScaleForge.none(I)I
theorem s44_0 {N : Nat} {xs : Nat → Int32} {hi : Nat → Nat → Int32} {hl : Nat → Nat → Int64} {Q : Option Value → ij_H → Prop} (a0 : Int32) (q0 : Q (some (.int ((-1)))) (ij_SH, (ij_ui hi 0 0 a0), hl, ij_HR)) : ij_R (ij_xt N xs) 44 0 [some (.ref 0), some (.int a0)] [] (ij_SH, hi, hl, ij_HR) Q := by
  exact ij_ret 5 (some (.int ((-1)))) (ij_SH, (ij_ui hi 0 0 a0), hl, ij_HR) (fun n => rfl) (q0)
set_option maxRecDepth 10000 in
-- ScaleForge$Tray.at(I)J
theorem s45_2 {N : Nat} {xs : Nat → Int32} {hi : Nat → Nat → Int32} {hl : Nat → Nat → Int64} {Q : Option Value → ij_H → Prop} (a0 : Int32) (q0 : (a0 < 0) → Q (some (.long ((Int64.ofNat 18446744073709551615)))) (ij_SH, hi, hl, ij_HR)) (q1 : ¬ (a0 < 0) → ((hi 2 2) ≤ a0) → Q (some (.long ((Int64.ofNat 18446744073709551615)))) (ij_SH, hi, hl, ij_HR)) (q2 : ¬ (a0 < 0) → ¬ ((hi 2 2) ≤ a0) → (60 ≤ a0) → Q (some (.long ((Int64.ofNat 18446744073709551615)))) (ij_SH, hi, hl, ij_HR)) (q3 : ¬ (a0 < 0) → ¬ ((hi 2 2) ≤ a0) → ¬ (60 ≤ a0) → Q (some (.long ((hl 3 (a0).toNatClampNeg)))) (ij_SH, hi, hl, ij_HR)) : ij_R (ij_xt N xs) 45 0 [some (.ref 2), some (.int a0)] [] (ij_SH, hi, hl, ij_HR) Q := by
  refine ij_call 3 36 [some (.ref 2), some (.int a0)] [] 5 [some (.ref 2), some (.int a0)] (ij_SH, hi, hl, ij_HR) (fun n => rfl) (s36_2 a0 (fun c1 => ?_) (fun c2 c3 => ?_) (fun c4 c5 c6 => ?_) (fun c7 c8 c9 => ?_))
  · skip
    exact ij_ret 3 (some (.long ((Int64.ofNat 18446744073709551615)))) (ij_SH, hi, hl, ij_HR) (fun n => rfl) (q0 c1)
  · skip
    exact ij_ret 3 (some (.long ((Int64.ofNat 18446744073709551615)))) (ij_SH, hi, hl, ij_HR) (fun n => rfl) (q1 c2 c3)
  · skip
    exact ij_ret 3 (some (.long ((Int64.ofNat 18446744073709551615)))) (ij_SH, hi, hl, ij_HR) (fun n => rfl) (q2 c4 c5 c6)
  · skip
    refine ij_go 4 13 [some (.ref 2), some (.int a0)] [.int a0, .ref 3] (ij_SH, hi, hl, ij_HR) (fun n => rfl) ?_
    refine ij_lal rfl rfl rfl (ij_bd c7 (Int32.not_le.mp c9) (by decide)) ?_
    exact ij_ret 2 (some (.long ((hl 3 (a0).toNatClampNeg)))) (ij_SH, hi, hl, ij_HR) (fun n => rfl) (q3 c7 c8 c9)
def f45_2 (a0 : Int32) (hi : Nat → Nat → Int32) (hl : Nat → Nat → Int64) : Int64 := if a0 < 0 then ((Int64.ofNat 18446744073709551615)) else (if (hi 2 2) ≤ a0 then ((Int64.ofNat 18446744073709551615)) else (if 60 ≤ a0 then ((Int64.ofNat 18446744073709551615)) else ((hl 3 (a0).toNatClampNeg))))
theorem t45_2 {N : Nat} {xs : Nat → Int32} {hi : Nat → Nat → Int32} {hl : Nat → Nat → Int64} {Q : Option Value → ij_H → Prop} (a0 : Int32) (q : Q (some (.long (f45_2 a0 hi hl))) (ij_SH, hi, hl, ij_HR)) : ij_R (ij_xt N xs) 45 0 [some (.ref 2), some (.int a0)] [] (ij_SH, hi, hl, ij_HR) Q :=
  s45_2 a0 (fun k0 => by rw [f45_2, if_pos k0] at q; exact q) (fun k0 k1 => by rw [f45_2, if_neg k0, if_pos k1] at q; exact q) (fun k0 k1 k2 => by rw [f45_2, if_neg k0, if_neg k1, if_pos k2] at q; exact q) (fun k0 k1 k2 => by rw [f45_2, if_neg k0, if_neg k1, if_neg k2] at q; exact q)
set_option maxRecDepth 10000 in
-- ScaleForge$Tray.at(I)J
theorem s45_4 {N : Nat} {xs : Nat → Int32} {hi : Nat → Nat → Int32} {hl : Nat → Nat → Int64} {Q : Option Value → ij_H → Prop} (a0 : Int32) (q0 : (a0 < 0) → Q (some (.long ((Int64.ofNat 18446744073709551615)))) (ij_SH, hi, hl, ij_HR)) (q1 : ¬ (a0 < 0) → ((hi 4 2) ≤ a0) → Q (some (.long ((Int64.ofNat 18446744073709551615)))) (ij_SH, hi, hl, ij_HR)) (q2 : ¬ (a0 < 0) → ¬ ((hi 4 2) ≤ a0) → (60 ≤ a0) → Q (some (.long ((Int64.ofNat 18446744073709551615)))) (ij_SH, hi, hl, ij_HR)) (q3 : ¬ (a0 < 0) → ¬ ((hi 4 2) ≤ a0) → ¬ (60 ≤ a0) → Q (some (.long ((hl 5 (a0).toNatClampNeg)))) (ij_SH, hi, hl, ij_HR)) : ij_R (ij_xt N xs) 45 0 [some (.ref 4), some (.int a0)] [] (ij_SH, hi, hl, ij_HR) Q := by
  refine ij_call 3 36 [some (.ref 4), some (.int a0)] [] 5 [some (.ref 4), some (.int a0)] (ij_SH, hi, hl, ij_HR) (fun n => rfl) (s36_4 a0 (fun c1 => ?_) (fun c2 c3 => ?_) (fun c4 c5 c6 => ?_) (fun c7 c8 c9 => ?_))
  · skip
    exact ij_ret 3 (some (.long ((Int64.ofNat 18446744073709551615)))) (ij_SH, hi, hl, ij_HR) (fun n => rfl) (q0 c1)
  · skip
    exact ij_ret 3 (some (.long ((Int64.ofNat 18446744073709551615)))) (ij_SH, hi, hl, ij_HR) (fun n => rfl) (q1 c2 c3)
  · skip
    exact ij_ret 3 (some (.long ((Int64.ofNat 18446744073709551615)))) (ij_SH, hi, hl, ij_HR) (fun n => rfl) (q2 c4 c5 c6)
  · skip
    refine ij_go 4 13 [some (.ref 4), some (.int a0)] [.int a0, .ref 5] (ij_SH, hi, hl, ij_HR) (fun n => rfl) ?_
    refine ij_lal rfl rfl rfl (ij_bd c7 (Int32.not_le.mp c9) (by decide)) ?_
    exact ij_ret 2 (some (.long ((hl 5 (a0).toNatClampNeg)))) (ij_SH, hi, hl, ij_HR) (fun n => rfl) (q3 c7 c8 c9)
def f45_4 (a0 : Int32) (hi : Nat → Nat → Int32) (hl : Nat → Nat → Int64) : Int64 := if a0 < 0 then ((Int64.ofNat 18446744073709551615)) else (if (hi 4 2) ≤ a0 then ((Int64.ofNat 18446744073709551615)) else (if 60 ≤ a0 then ((Int64.ofNat 18446744073709551615)) else ((hl 5 (a0).toNatClampNeg))))
theorem t45_4 {N : Nat} {xs : Nat → Int32} {hi : Nat → Nat → Int32} {hl : Nat → Nat → Int64} {Q : Option Value → ij_H → Prop} (a0 : Int32) (q : Q (some (.long (f45_4 a0 hi hl))) (ij_SH, hi, hl, ij_HR)) : ij_R (ij_xt N xs) 45 0 [some (.ref 4), some (.int a0)] [] (ij_SH, hi, hl, ij_HR) Q :=
  s45_4 a0 (fun k0 => by rw [f45_4, if_pos k0] at q; exact q) (fun k0 k1 => by rw [f45_4, if_neg k0, if_pos k1] at q; exact q) (fun k0 k1 k2 => by rw [f45_4, if_neg k0, if_neg k1, if_pos k2] at q; exact q) (fun k0 k1 k2 => by rw [f45_4, if_neg k0, if_neg k1, if_neg k2] at q; exact q)
set_option maxRecDepth 10000 in
-- ScaleForge$Tray.at(I)J
theorem s45_6 {N : Nat} {xs : Nat → Int32} {hi : Nat → Nat → Int32} {hl : Nat → Nat → Int64} {Q : Option Value → ij_H → Prop} (a0 : Int32) (q0 : (a0 < 0) → Q (some (.long ((Int64.ofNat 18446744073709551615)))) (ij_SH, hi, hl, ij_HR)) (q1 : ¬ (a0 < 0) → ((hi 6 2) ≤ a0) → Q (some (.long ((Int64.ofNat 18446744073709551615)))) (ij_SH, hi, hl, ij_HR)) (q2 : ¬ (a0 < 0) → ¬ ((hi 6 2) ≤ a0) → (60 ≤ a0) → Q (some (.long ((Int64.ofNat 18446744073709551615)))) (ij_SH, hi, hl, ij_HR)) (q3 : ¬ (a0 < 0) → ¬ ((hi 6 2) ≤ a0) → ¬ (60 ≤ a0) → Q (some (.long ((hl 7 (a0).toNatClampNeg)))) (ij_SH, hi, hl, ij_HR)) : ij_R (ij_xt N xs) 45 0 [some (.ref 6), some (.int a0)] [] (ij_SH, hi, hl, ij_HR) Q := by
  refine ij_call 3 36 [some (.ref 6), some (.int a0)] [] 5 [some (.ref 6), some (.int a0)] (ij_SH, hi, hl, ij_HR) (fun n => rfl) (s36_6 a0 (fun c1 => ?_) (fun c2 c3 => ?_) (fun c4 c5 c6 => ?_) (fun c7 c8 c9 => ?_))
  · skip
    exact ij_ret 3 (some (.long ((Int64.ofNat 18446744073709551615)))) (ij_SH, hi, hl, ij_HR) (fun n => rfl) (q0 c1)
  · skip
    exact ij_ret 3 (some (.long ((Int64.ofNat 18446744073709551615)))) (ij_SH, hi, hl, ij_HR) (fun n => rfl) (q1 c2 c3)
  · skip
    exact ij_ret 3 (some (.long ((Int64.ofNat 18446744073709551615)))) (ij_SH, hi, hl, ij_HR) (fun n => rfl) (q2 c4 c5 c6)
  · skip
    refine ij_go 4 13 [some (.ref 6), some (.int a0)] [.int a0, .ref 7] (ij_SH, hi, hl, ij_HR) (fun n => rfl) ?_
    refine ij_lal rfl rfl rfl (ij_bd c7 (Int32.not_le.mp c9) (by decide)) ?_
    exact ij_ret 2 (some (.long ((hl 7 (a0).toNatClampNeg)))) (ij_SH, hi, hl, ij_HR) (fun n => rfl) (q3 c7 c8 c9)
def f45_6 (a0 : Int32) (hi : Nat → Nat → Int32) (hl : Nat → Nat → Int64) : Int64 := if a0 < 0 then ((Int64.ofNat 18446744073709551615)) else (if (hi 6 2) ≤ a0 then ((Int64.ofNat 18446744073709551615)) else (if 60 ≤ a0 then ((Int64.ofNat 18446744073709551615)) else ((hl 7 (a0).toNatClampNeg))))
theorem t45_6 {N : Nat} {xs : Nat → Int32} {hi : Nat → Nat → Int32} {hl : Nat → Nat → Int64} {Q : Option Value → ij_H → Prop} (a0 : Int32) (q : Q (some (.long (f45_6 a0 hi hl))) (ij_SH, hi, hl, ij_HR)) : ij_R (ij_xt N xs) 45 0 [some (.ref 6), some (.int a0)] [] (ij_SH, hi, hl, ij_HR) Q :=
  s45_6 a0 (fun k0 => by rw [f45_6, if_pos k0] at q; exact q) (fun k0 k1 => by rw [f45_6, if_neg k0, if_pos k1] at q; exact q) (fun k0 k1 k2 => by rw [f45_6, if_neg k0, if_neg k1, if_pos k2] at q; exact q) (fun k0 k1 k2 => by rw [f45_6, if_neg k0, if_neg k1, if_neg k2] at q; exact q)
set_option maxRecDepth 10000 in
-- ScaleForge$Tray.at(I)J
theorem s45_8 {N : Nat} {xs : Nat → Int32} {hi : Nat → Nat → Int32} {hl : Nat → Nat → Int64} {Q : Option Value → ij_H → Prop} (a0 : Int32) (q0 : (a0 < 0) → Q (some (.long ((Int64.ofNat 18446744073709551615)))) (ij_SH, hi, hl, ij_HR)) (q1 : ¬ (a0 < 0) → ((hi 8 2) ≤ a0) → Q (some (.long ((Int64.ofNat 18446744073709551615)))) (ij_SH, hi, hl, ij_HR)) (q2 : ¬ (a0 < 0) → ¬ ((hi 8 2) ≤ a0) → (60 ≤ a0) → Q (some (.long ((Int64.ofNat 18446744073709551615)))) (ij_SH, hi, hl, ij_HR)) (q3 : ¬ (a0 < 0) → ¬ ((hi 8 2) ≤ a0) → ¬ (60 ≤ a0) → Q (some (.long ((hl 9 (a0).toNatClampNeg)))) (ij_SH, hi, hl, ij_HR)) : ij_R (ij_xt N xs) 45 0 [some (.ref 8), some (.int a0)] [] (ij_SH, hi, hl, ij_HR) Q := by
  refine ij_call 3 36 [some (.ref 8), some (.int a0)] [] 5 [some (.ref 8), some (.int a0)] (ij_SH, hi, hl, ij_HR) (fun n => rfl) (s36_8 a0 (fun c1 => ?_) (fun c2 c3 => ?_) (fun c4 c5 c6 => ?_) (fun c7 c8 c9 => ?_))
  · skip
    exact ij_ret 3 (some (.long ((Int64.ofNat 18446744073709551615)))) (ij_SH, hi, hl, ij_HR) (fun n => rfl) (q0 c1)
  · skip
    exact ij_ret 3 (some (.long ((Int64.ofNat 18446744073709551615)))) (ij_SH, hi, hl, ij_HR) (fun n => rfl) (q1 c2 c3)
  · skip
    exact ij_ret 3 (some (.long ((Int64.ofNat 18446744073709551615)))) (ij_SH, hi, hl, ij_HR) (fun n => rfl) (q2 c4 c5 c6)
  · skip
    refine ij_go 4 13 [some (.ref 8), some (.int a0)] [.int a0, .ref 9] (ij_SH, hi, hl, ij_HR) (fun n => rfl) ?_
    refine ij_lal rfl rfl rfl (ij_bd c7 (Int32.not_le.mp c9) (by decide)) ?_
    exact ij_ret 2 (some (.long ((hl 9 (a0).toNatClampNeg)))) (ij_SH, hi, hl, ij_HR) (fun n => rfl) (q3 c7 c8 c9)
def f45_8 (a0 : Int32) (hi : Nat → Nat → Int32) (hl : Nat → Nat → Int64) : Int64 := if a0 < 0 then ((Int64.ofNat 18446744073709551615)) else (if (hi 8 2) ≤ a0 then ((Int64.ofNat 18446744073709551615)) else (if 60 ≤ a0 then ((Int64.ofNat 18446744073709551615)) else ((hl 9 (a0).toNatClampNeg))))
theorem t45_8 {N : Nat} {xs : Nat → Int32} {hi : Nat → Nat → Int32} {hl : Nat → Nat → Int64} {Q : Option Value → ij_H → Prop} (a0 : Int32) (q : Q (some (.long (f45_8 a0 hi hl))) (ij_SH, hi, hl, ij_HR)) : ij_R (ij_xt N xs) 45 0 [some (.ref 8), some (.int a0)] [] (ij_SH, hi, hl, ij_HR) Q :=
  s45_8 a0 (fun k0 => by rw [f45_8, if_pos k0] at q; exact q) (fun k0 k1 => by rw [f45_8, if_neg k0, if_pos k1] at q; exact q) (fun k0 k1 k2 => by rw [f45_8, if_neg k0, if_neg k1, if_pos k2] at q; exact q) (fun k0 k1 k2 => by rw [f45_8, if_neg k0, if_neg k1, if_neg k2] at q; exact q)
set_option maxRecDepth 10000 in
-- ScaleForgeModel.read(II)J
theorem s47_77 {N : Nat} {xs : Nat → Int32} {hi : Nat → Nat → Int32} {hl : Nat → Nat → Int64} {Q : Option Value → ij_H → Prop} (a0 : Int32) (a1 : Int32) (b0 : ((f41_77 a0 a1 hi hl) ≤ 0) → ¬ (((60 * a0) + a1) < 0 ∨ 240 ≤ (((60 * a0) + a1) : Int32).toNatClampNeg)) (q0 : ((f41_77 a0 a1 hi hl) ≤ 0) → Q (some (.long ((hl 81 (((60 * a0) + a1)).toNatClampNeg)))) (ij_SH, (ij_ui hi 77 1 (f41_77 a0 a1 hi hl)), hl, ij_HR)) (q1 : ¬ ((f41_77 a0 a1 hi hl) ≤ 0) → Q (some (.long ((Int64.ofNat 18446744073709551615)))) (ij_SH, (ij_ui hi 77 1 (f41_77 a0 a1 hi hl)), hl, ij_HR)) : ij_R (ij_xt N xs) 47 0 [some (.ref 77), some (.int a0), some (.int a1)] [] (ij_SH, hi, hl, ij_HR) Q := by
  refine ij_call 5 41 [some (.ref 77), some (.int a0), some (.int a1)] [.ref 77] 7 [some (.ref 77), some (.int a0), some (.int a1)] (ij_SH, hi, hl, ij_HR) (fun n => rfl) (t41_77 a0 a1 ?_)
  -- back
  refine ij_br 4 ((f41_77 a0 a1 hi hl) ≤ 0) 23 17 [some (.ref 77), some (.int a0), some (.int a1)] [] (ij_SH, (ij_ui hi 77 1 (f41_77 a0 a1 hi hl)), hl, ij_HR) (fun n => rfl) (fun c1 => ?_) (fun c1 => ?_)
  · skip
    refine ij_go 7 33 [some (.ref 77), some (.int a0), some (.int a1)] [.int (((60 * a0) + a1)), .ref 81] (ij_SH, (ij_ui hi 77 1 (f41_77 a0 a1 hi hl)), hl, ij_HR) (fun n => rfl) ?_
    refine ij_lal rfl rfl rfl (b0 c1) ?_
    exact ij_ret 1 (some (.long ((hl 81 (((60 * a0) + a1)).toNatClampNeg)))) (ij_SH, (ij_ui hi 77 1 (f41_77 a0 a1 hi hl)), hl, ij_HR) (fun n => rfl) (q0 c1)
  · skip
    exact ij_ret 3 (some (.long ((Int64.ofNat 18446744073709551615)))) (ij_SH, (ij_ui hi 77 1 (f41_77 a0 a1 hi hl)), hl, ij_HR) (fun n => rfl) (q1 c1)
set_option maxRecDepth 10000 in
-- ScaleForge$Tray.hasRun(II)Z
theorem s48_2 {N : Nat} {xs : Nat → Int32} {hi : Nat → Nat → Int32} {hl : Nat → Nat → Int64} {Q : Option Value → ij_H → Prop} (a0 : Int32) (a1 : Int32) (q0 : (a0 < 0) → Q (some (.int (0))) (ij_SH, hi, hl, ij_HR)) (q1 : ¬ (a0 < 0) → (a1 < 0) → Q (some (.int (0))) (ij_SH, hi, hl, ij_HR)) (q2 : ¬ (a0 < 0) → ¬ (a1 < 0) → ((0 : Int32) < (lg_cmp ((a0 : Int32).toInt64 + (a1 : Int32).toInt64) ((hi 2 2) : Int32).toInt64)) → Q (some (.int (0))) (ij_SH, hi, hl, ij_HR)) (q3 : ¬ (a0 < 0) → ¬ (a1 < 0) → ¬ ((0 : Int32) < (lg_cmp ((a0 : Int32).toInt64 + (a1 : Int32).toInt64) ((hi 2 2) : Int32).toInt64)) → Q (some (.int (1))) (ij_SH, hi, hl, ij_HR)) : ij_R (ij_xt N xs) 48 0 [some (.ref 2), some (.int a0), some (.int a1)] [] (ij_SH, hi, hl, ij_HR) Q := by
  refine ij_br 2 (a0 < 0) 26 4 [some (.ref 2), some (.int a0), some (.int a1)] [] (ij_SH, hi, hl, ij_HR) (fun n => rfl) (fun c1 => ?_) (fun c1 => ?_)
  · skip
    exact ij_ret 2 (some (.int (0))) (ij_SH, hi, hl, ij_HR) (fun n => rfl) (q0 c1)
  · skip
    refine ij_br 2 (a1 < 0) 26 8 [some (.ref 2), some (.int a0), some (.int a1)] [] (ij_SH, hi, hl, ij_HR) (fun n => rfl) (fun c2 => ?_) (fun c2 => ?_)
    · skip
      exact ij_ret 2 (some (.int (0))) (ij_SH, hi, hl, ij_HR) (fun n => rfl) (q1 c1 c2)
    · skip
      refine ij_br 10 ((0 : Int32) < (lg_cmp ((a0 : Int32).toInt64 + (a1 : Int32).toInt64) ((hi 2 2) : Int32).toInt64)) 26 22 [some (.ref 2), some (.int a0), some (.int a1)] [] (ij_SH, hi, hl, ij_HR) (fun n => rfl) (fun c3 => ?_) (fun c3 => ?_)
      · skip
        exact ij_ret 2 (some (.int (0))) (ij_SH, hi, hl, ij_HR) (fun n => rfl) (q2 c1 c2 c3)
      · skip
        exact ij_ret 3 (some (.int (1))) (ij_SH, hi, hl, ij_HR) (fun n => rfl) (q3 c1 c2 c3)
set_option maxRecDepth 10000 in
-- ScaleForge$Tray.hasRun(II)Z
theorem s48_4 {N : Nat} {xs : Nat → Int32} {hi : Nat → Nat → Int32} {hl : Nat → Nat → Int64} {Q : Option Value → ij_H → Prop} (a0 : Int32) (a1 : Int32) (q0 : (a0 < 0) → Q (some (.int (0))) (ij_SH, hi, hl, ij_HR)) (q1 : ¬ (a0 < 0) → (a1 < 0) → Q (some (.int (0))) (ij_SH, hi, hl, ij_HR)) (q2 : ¬ (a0 < 0) → ¬ (a1 < 0) → ((0 : Int32) < (lg_cmp ((a0 : Int32).toInt64 + (a1 : Int32).toInt64) ((hi 4 2) : Int32).toInt64)) → Q (some (.int (0))) (ij_SH, hi, hl, ij_HR)) (q3 : ¬ (a0 < 0) → ¬ (a1 < 0) → ¬ ((0 : Int32) < (lg_cmp ((a0 : Int32).toInt64 + (a1 : Int32).toInt64) ((hi 4 2) : Int32).toInt64)) → Q (some (.int (1))) (ij_SH, hi, hl, ij_HR)) : ij_R (ij_xt N xs) 48 0 [some (.ref 4), some (.int a0), some (.int a1)] [] (ij_SH, hi, hl, ij_HR) Q := by
  refine ij_br 2 (a0 < 0) 26 4 [some (.ref 4), some (.int a0), some (.int a1)] [] (ij_SH, hi, hl, ij_HR) (fun n => rfl) (fun c1 => ?_) (fun c1 => ?_)
  · skip
    exact ij_ret 2 (some (.int (0))) (ij_SH, hi, hl, ij_HR) (fun n => rfl) (q0 c1)
  · skip
    refine ij_br 2 (a1 < 0) 26 8 [some (.ref 4), some (.int a0), some (.int a1)] [] (ij_SH, hi, hl, ij_HR) (fun n => rfl) (fun c2 => ?_) (fun c2 => ?_)
    · skip
      exact ij_ret 2 (some (.int (0))) (ij_SH, hi, hl, ij_HR) (fun n => rfl) (q1 c1 c2)
    · skip
      refine ij_br 10 ((0 : Int32) < (lg_cmp ((a0 : Int32).toInt64 + (a1 : Int32).toInt64) ((hi 4 2) : Int32).toInt64)) 26 22 [some (.ref 4), some (.int a0), some (.int a1)] [] (ij_SH, hi, hl, ij_HR) (fun n => rfl) (fun c3 => ?_) (fun c3 => ?_)
      · skip
        exact ij_ret 2 (some (.int (0))) (ij_SH, hi, hl, ij_HR) (fun n => rfl) (q2 c1 c2 c3)
      · skip
        exact ij_ret 3 (some (.int (1))) (ij_SH, hi, hl, ij_HR) (fun n => rfl) (q3 c1 c2 c3)
set_option maxRecDepth 10000 in
-- ScaleForge$Tray.hasRun(II)Z
theorem s48_6 {N : Nat} {xs : Nat → Int32} {hi : Nat → Nat → Int32} {hl : Nat → Nat → Int64} {Q : Option Value → ij_H → Prop} (a0 : Int32) (a1 : Int32) (q0 : (a0 < 0) → Q (some (.int (0))) (ij_SH, hi, hl, ij_HR)) (q1 : ¬ (a0 < 0) → (a1 < 0) → Q (some (.int (0))) (ij_SH, hi, hl, ij_HR)) (q2 : ¬ (a0 < 0) → ¬ (a1 < 0) → ((0 : Int32) < (lg_cmp ((a0 : Int32).toInt64 + (a1 : Int32).toInt64) ((hi 6 2) : Int32).toInt64)) → Q (some (.int (0))) (ij_SH, hi, hl, ij_HR)) (q3 : ¬ (a0 < 0) → ¬ (a1 < 0) → ¬ ((0 : Int32) < (lg_cmp ((a0 : Int32).toInt64 + (a1 : Int32).toInt64) ((hi 6 2) : Int32).toInt64)) → Q (some (.int (1))) (ij_SH, hi, hl, ij_HR)) : ij_R (ij_xt N xs) 48 0 [some (.ref 6), some (.int a0), some (.int a1)] [] (ij_SH, hi, hl, ij_HR) Q := by
  refine ij_br 2 (a0 < 0) 26 4 [some (.ref 6), some (.int a0), some (.int a1)] [] (ij_SH, hi, hl, ij_HR) (fun n => rfl) (fun c1 => ?_) (fun c1 => ?_)
  · skip
    exact ij_ret 2 (some (.int (0))) (ij_SH, hi, hl, ij_HR) (fun n => rfl) (q0 c1)
  · skip
    refine ij_br 2 (a1 < 0) 26 8 [some (.ref 6), some (.int a0), some (.int a1)] [] (ij_SH, hi, hl, ij_HR) (fun n => rfl) (fun c2 => ?_) (fun c2 => ?_)
    · skip
      exact ij_ret 2 (some (.int (0))) (ij_SH, hi, hl, ij_HR) (fun n => rfl) (q1 c1 c2)
    · skip
      refine ij_br 10 ((0 : Int32) < (lg_cmp ((a0 : Int32).toInt64 + (a1 : Int32).toInt64) ((hi 6 2) : Int32).toInt64)) 26 22 [some (.ref 6), some (.int a0), some (.int a1)] [] (ij_SH, hi, hl, ij_HR) (fun n => rfl) (fun c3 => ?_) (fun c3 => ?_)
      · skip
        exact ij_ret 2 (some (.int (0))) (ij_SH, hi, hl, ij_HR) (fun n => rfl) (q2 c1 c2 c3)
      · skip
        exact ij_ret 3 (some (.int (1))) (ij_SH, hi, hl, ij_HR) (fun n => rfl) (q3 c1 c2 c3)
set_option maxRecDepth 10000 in
-- ScaleForge$Tray.hasRun(II)Z
theorem s48_8 {N : Nat} {xs : Nat → Int32} {hi : Nat → Nat → Int32} {hl : Nat → Nat → Int64} {Q : Option Value → ij_H → Prop} (a0 : Int32) (a1 : Int32) (q0 : (a0 < 0) → Q (some (.int (0))) (ij_SH, hi, hl, ij_HR)) (q1 : ¬ (a0 < 0) → (a1 < 0) → Q (some (.int (0))) (ij_SH, hi, hl, ij_HR)) (q2 : ¬ (a0 < 0) → ¬ (a1 < 0) → ((0 : Int32) < (lg_cmp ((a0 : Int32).toInt64 + (a1 : Int32).toInt64) ((hi 8 2) : Int32).toInt64)) → Q (some (.int (0))) (ij_SH, hi, hl, ij_HR)) (q3 : ¬ (a0 < 0) → ¬ (a1 < 0) → ¬ ((0 : Int32) < (lg_cmp ((a0 : Int32).toInt64 + (a1 : Int32).toInt64) ((hi 8 2) : Int32).toInt64)) → Q (some (.int (1))) (ij_SH, hi, hl, ij_HR)) : ij_R (ij_xt N xs) 48 0 [some (.ref 8), some (.int a0), some (.int a1)] [] (ij_SH, hi, hl, ij_HR) Q := by
  refine ij_br 2 (a0 < 0) 26 4 [some (.ref 8), some (.int a0), some (.int a1)] [] (ij_SH, hi, hl, ij_HR) (fun n => rfl) (fun c1 => ?_) (fun c1 => ?_)
  · skip
    exact ij_ret 2 (some (.int (0))) (ij_SH, hi, hl, ij_HR) (fun n => rfl) (q0 c1)
  · skip
    refine ij_br 2 (a1 < 0) 26 8 [some (.ref 8), some (.int a0), some (.int a1)] [] (ij_SH, hi, hl, ij_HR) (fun n => rfl) (fun c2 => ?_) (fun c2 => ?_)
    · skip
      exact ij_ret 2 (some (.int (0))) (ij_SH, hi, hl, ij_HR) (fun n => rfl) (q1 c1 c2)
    · skip
      refine ij_br 10 ((0 : Int32) < (lg_cmp ((a0 : Int32).toInt64 + (a1 : Int32).toInt64) ((hi 8 2) : Int32).toInt64)) 26 22 [some (.ref 8), some (.int a0), some (.int a1)] [] (ij_SH, hi, hl, ij_HR) (fun n => rfl) (fun c3 => ?_) (fun c3 => ?_)
      · skip
        exact ij_ret 2 (some (.int (0))) (ij_SH, hi, hl, ij_HR) (fun n => rfl) (q2 c1 c2 c3)
      · skip
        exact ij_ret 3 (some (.int (1))) (ij_SH, hi, hl, ij_HR) (fun n => rfl) (q3 c1 c2 c3)
set_option maxRecDepth 10000 in
-- ScaleForge$Reader.begin(I)V
theorem s55_10 {N : Nat} {xs : Nat → Int32} {hi : Nat → Nat → Int32} {hl : Nat → Nat → Int64} {Q : Option Value → ij_H → Prop} (a0 : Int32) (q0 : Q (none) (ij_SH, (ij_ui (ij_ui (ij_ui (ij_ui hi 10 2 a0) 10 3 0) 10 7 0) 10 8 (-1)), hl, ij_HR)) : ij_R (ij_xt N xs) 55 0 [some (.ref 10), some (.int a0)] [] (ij_SH, hi, hl, ij_HR) Q := by
  exact ij_ret 13 (none) (ij_SH, (ij_ui (ij_ui (ij_ui (ij_ui hi 10 2 a0) 10 3 0) 10 7 0) 10 8 (-1)), hl, ij_HR) (fun n => rfl) (q0)
set_option maxRecDepth 10000 in
-- ScaleForge$Reader.byteAt(I)I
theorem s56_10 {N : Nat} {xs : Nat → Int32} {hi : Nat → Nat → Int32} {hl : Nat → Nat → Int64} {Q : Option Value → ij_H → Prop} (a0 : Int32) (q0 : (a0 < 0) → Q (some (.int (0))) (ij_SH, hi, hl, ij_HR)) (q1 : ¬ (a0 < 0) → (900 ≤ a0) → Q (some (.int (0))) (ij_SH, hi, hl, ij_HR)) (q2 : ¬ (a0 < 0) → ¬ (900 ≤ a0) → Q (some (.int (((hi 11 (a0).toNatClampNeg) &&& 255)))) (ij_SH, hi, hl, ij_HR)) : ij_R (ij_xt N xs) 56 0 [some (.ref 10), some (.int a0)] [] (ij_SH, hi, hl, ij_HR) Q := by
  refine ij_br 2 (a0 < 0) 26 4 [some (.ref 10), some (.int a0)] [] (ij_SH, hi, hl, ij_HR) (fun n => rfl) (fun c1 => ?_) (fun c1 => ?_)
  · skip
    exact ij_ret 2 (some (.int (0))) (ij_SH, hi, hl, ij_HR) (fun n => rfl) (q0 c1)
  · skip
    refine ij_br 5 (900 ≤ a0) 26 13 [some (.ref 10), some (.int a0)] [] (ij_SH, hi, hl, ij_HR) (fun n => rfl) (fun c2 => ?_) (fun c2 => ?_)
    · skip
      exact ij_ret 2 (some (.int (0))) (ij_SH, hi, hl, ij_HR) (fun n => rfl) (q1 c1 c2)
    · skip
      refine ij_go 3 18 [some (.ref 10), some (.int a0)] [.int a0, .ref 11] (ij_SH, hi, hl, ij_HR) (fun n => rfl) ?_
      refine ij_bal rfl rfl rfl (ij_bd c1 (Int32.not_le.mp c2) (by decide)) ?_
      exact ij_ret 4 (some (.int (((hi 11 (a0).toNatClampNeg) &&& 255)))) (ij_SH, hi, hl, ij_HR) (fun n => rfl) (q2 c1 c2)
def f56_10 (a0 : Int32) (hi : Nat → Nat → Int32) (hl : Nat → Nat → Int64) : Int32 := if a0 < 0 then (0) else (if 900 ≤ a0 then (0) else (((hi 11 (a0).toNatClampNeg) &&& 255)))
theorem t56_10 {N : Nat} {xs : Nat → Int32} {hi : Nat → Nat → Int32} {hl : Nat → Nat → Int64} {Q : Option Value → ij_H → Prop} (a0 : Int32) (q : Q (some (.int (f56_10 a0 hi hl))) (ij_SH, hi, hl, ij_HR)) : ij_R (ij_xt N xs) 56 0 [some (.ref 10), some (.int a0)] [] (ij_SH, hi, hl, ij_HR) Q :=
  s56_10 a0 (fun k0 => by rw [f56_10, if_pos k0] at q; exact q) (fun k0 k1 => by rw [f56_10, if_neg k0, if_pos k1] at q; exact q) (fun k0 k1 => by rw [f56_10, if_neg k0, if_neg k1] at q; exact q)
set_option maxRecDepth 10000 in
-- ScaleForge$Reader.isBlank(I)Z
theorem s57 {N : Nat} {xs : Nat → Int32} {hi : Nat → Nat → Int32} {hl : Nat → Nat → Int64} {Q : Option Value → ij_H → Prop} (a0 : Int32) (q0 : (a0 = 10) → Q (some (.int (1))) (ij_SH, hi, hl, ij_HR)) (q1 : ¬ (a0 = 10) → (a0 = 32) → Q (some (.int (1))) (ij_SH, hi, hl, ij_HR)) (q2 : ¬ (a0 = 10) → ¬ (a0 = 32) → Q (some (.int (0))) (ij_SH, hi, hl, ij_HR)) : ij_R (ij_xt N xs) 57 0 [some (.int a0)] [] (ij_SH, hi, hl, ij_HR) Q := by
  refine ij_br 3 (a0 = 10) 12 6 [some (.int a0)] [] (ij_SH, hi, hl, ij_HR) (fun n => rfl) (fun c1 => ?_) (fun c1 => ?_)
  · skip
    exact ij_ret 3 (some (.int (1))) (ij_SH, hi, hl, ij_HR) (fun n => rfl) (q0 c1)
  · skip
    refine ij_br 3 (a0 = 32) 12 16 [some (.int a0)] [] (ij_SH, hi, hl, ij_HR) (fun n => rfl) (fun c2 => ?_) (fun c2 => ?_)
    · skip
      exact ij_ret 3 (some (.int (1))) (ij_SH, hi, hl, ij_HR) (fun n => rfl) (q1 c1 c2)
    · skip
      exact ij_ret 2 (some (.int (0))) (ij_SH, hi, hl, ij_HR) (fun n => rfl) (q2 c1 c2)
set_option maxRecDepth 10000 in
-- ScaleForge$Reader.isLetter(I)Z
theorem s58 {N : Nat} {xs : Nat → Int32} {hi : Nat → Nat → Int32} {hl : Nat → Nat → Int64} {Q : Option Value → ij_H → Prop} (a0 : Int32) (q0 : (a0 < 97) → Q (some (.int (0))) (ij_SH, hi, hl, ij_HR)) (q1 : ¬ (a0 < 97) → (122 < a0) → Q (some (.int (0))) (ij_SH, hi, hl, ij_HR)) (q2 : ¬ (a0 < 97) → ¬ (122 < a0) → Q (some (.int (1))) (ij_SH, hi, hl, ij_HR)) : ij_R (ij_xt N xs) 58 0 [some (.int a0)] [] (ij_SH, hi, hl, ij_HR) Q := by
  refine ij_br 3 (a0 < 97) 16 6 [some (.int a0)] [] (ij_SH, hi, hl, ij_HR) (fun n => rfl) (fun c1 => ?_) (fun c1 => ?_)
  · skip
    exact ij_ret 2 (some (.int (0))) (ij_SH, hi, hl, ij_HR) (fun n => rfl) (q0 c1)
  · skip
    refine ij_br 3 (122 < a0) 16 12 [some (.int a0)] [] (ij_SH, hi, hl, ij_HR) (fun n => rfl) (fun c2 => ?_) (fun c2 => ?_)
    · skip
      exact ij_ret 2 (some (.int (0))) (ij_SH, hi, hl, ij_HR) (fun n => rfl) (q1 c1 c2)
    · skip
      exact ij_ret 3 (some (.int (1))) (ij_SH, hi, hl, ij_HR) (fun n => rfl) (q2 c1 c2)
set_option maxRecDepth 10000 in
-- ScaleForge$Reader.isDigit(I)Z
theorem s60 {N : Nat} {xs : Nat → Int32} {hi : Nat → Nat → Int32} {hl : Nat → Nat → Int64} {Q : Option Value → ij_H → Prop} (a0 : Int32) (q0 : (a0 < 48) → Q (some (.int (0))) (ij_SH, hi, hl, ij_HR)) (q1 : ¬ (a0 < 48) → (57 < a0) → Q (some (.int (0))) (ij_SH, hi, hl, ij_HR)) (q2 : ¬ (a0 < 48) → ¬ (57 < a0) → Q (some (.int (1))) (ij_SH, hi, hl, ij_HR)) : ij_R (ij_xt N xs) 60 0 [some (.int a0)] [] (ij_SH, hi, hl, ij_HR) Q := by
  refine ij_br 3 (a0 < 48) 16 6 [some (.int a0)] [] (ij_SH, hi, hl, ij_HR) (fun n => rfl) (fun c1 => ?_) (fun c1 => ?_)
  · skip
    exact ij_ret 2 (some (.int (0))) (ij_SH, hi, hl, ij_HR) (fun n => rfl) (q0 c1)
  · skip
    refine ij_br 3 (57 < a0) 16 12 [some (.int a0)] [] (ij_SH, hi, hl, ij_HR) (fun n => rfl) (fun c2 => ?_) (fun c2 => ?_)
    · skip
      exact ij_ret 2 (some (.int (0))) (ij_SH, hi, hl, ij_HR) (fun n => rfl) (q1 c1 c2)
    · skip
      exact ij_ret 3 (some (.int (1))) (ij_SH, hi, hl, ij_HR) (fun n => rfl) (q2 c1 c2)
set_option maxRecDepth 10000 in
-- ScaleForge$Reader.isSign(I)Z
theorem s62 {N : Nat} {xs : Nat → Int32} {hi : Nat → Nat → Int32} {hl : Nat → Nat → Int64} {Q : Option Value → ij_H → Prop} (a0 : Int32) (q0 : (a0 = 59) → Q (some (.int (1))) (ij_SH, hi, hl, ij_HR)) (q1 : ¬ (a0 = 59) → (a0 = 60) → Q (some (.int (1))) (ij_SH, hi, hl, ij_HR)) (q2 : ¬ (a0 = 59) → ¬ (a0 = 60) → (a0 = 62) → Q (some (.int (1))) (ij_SH, hi, hl, ij_HR)) (q3 : ¬ (a0 = 59) → ¬ (a0 = 60) → ¬ (a0 = 62) → (a0 = 61) → Q (some (.int (1))) (ij_SH, hi, hl, ij_HR)) (q4 : ¬ (a0 = 59) → ¬ (a0 = 60) → ¬ (a0 = 62) → ¬ (a0 = 61) → Q (some (.int (0))) (ij_SH, hi, hl, ij_HR)) : ij_R (ij_xt N xs) 62 0 [some (.int a0)] [] (ij_SH, hi, hl, ij_HR) Q := by
  refine ij_br 3 (a0 = 59) 24 6 [some (.int a0)] [] (ij_SH, hi, hl, ij_HR) (fun n => rfl) (fun c1 => ?_) (fun c1 => ?_)
  · skip
    exact ij_ret 3 (some (.int (1))) (ij_SH, hi, hl, ij_HR) (fun n => rfl) (q0 c1)
  · skip
    refine ij_br 3 (a0 = 60) 24 12 [some (.int a0)] [] (ij_SH, hi, hl, ij_HR) (fun n => rfl) (fun c2 => ?_) (fun c2 => ?_)
    · skip
      exact ij_ret 3 (some (.int (1))) (ij_SH, hi, hl, ij_HR) (fun n => rfl) (q1 c1 c2)
    · skip
      refine ij_br 3 (a0 = 62) 24 18 [some (.int a0)] [] (ij_SH, hi, hl, ij_HR) (fun n => rfl) (fun c3 => ?_) (fun c3 => ?_)
      · skip
        exact ij_ret 3 (some (.int (1))) (ij_SH, hi, hl, ij_HR) (fun n => rfl) (q2 c1 c2 c3)
      · skip
        refine ij_br 3 (a0 = 61) 24 28 [some (.int a0)] [] (ij_SH, hi, hl, ij_HR) (fun n => rfl) (fun c4 => ?_) (fun c4 => ?_)
        · skip
          exact ij_ret 3 (some (.int (1))) (ij_SH, hi, hl, ij_HR) (fun n => rfl) (q3 c1 c2 c3 c4)
        · skip
          exact ij_ret 2 (some (.int (0))) (ij_SH, hi, hl, ij_HR) (fun n => rfl) (q4 c1 c2 c3 c4)
set_option maxRecDepth 10000 in
-- ScaleForge$Reader.blame(I)Z
theorem s63_10 {N : Nat} {xs : Nat → Int32} {hi : Nat → Nat → Int32} {hl : Nat → Nat → Int64} {Q : Option Value → ij_H → Prop} (a0 : Int32) (q0 : Q (some (.int (0))) (ij_SH, (ij_ui (ij_ui hi 10 7 a0) 10 8 (hi 10 5)), hl, ij_HR)) : ij_R (ij_xt N xs) 63 0 [some (.ref 10), some (.int a0)] [] (ij_SH, hi, hl, ij_HR) Q := by
  exact ij_ret 9 (some (.int (0))) (ij_SH, (ij_ui (ij_ui hi 10 7 a0) 10 8 (hi 10 5)), hl, ij_HR) (fun n => rfl) (q0)
set_option maxRecDepth 10000 in
-- ScaleForge$Bits.has(JI)Z
theorem s74 {N : Nat} {xs : Nat → Int32} {hi : Nat → Nat → Int32} {hl : Nat → Nat → Int64} {Q : Option Value → ij_H → Prop} (a0 : Int64) (a1 : Int32) (q0 : (a1 < 0) → Q (some (.int (0))) (ij_SH, hi, hl, ij_HR)) (q1 : ¬ (a1 < 0) → (64 ≤ a1) → Q (some (.int (0))) (ij_SH, hi, hl, ij_HR)) (q2 : ¬ (a1 < 0) → ¬ (64 ≤ a1) → ((lg_cmp (((a0 : Int64).toUInt64 >>> ((a1 : Int32).toInt64.toUInt64 &&& Int64.toUInt64 63)).toInt64 &&& 1) 0) = 0) → Q (some (.int (0))) (ij_SH, hi, hl, ij_HR)) (q3 : ¬ (a1 < 0) → ¬ (64 ≤ a1) → ¬ ((lg_cmp (((a0 : Int64).toUInt64 >>> ((a1 : Int32).toInt64.toUInt64 &&& Int64.toUInt64 63)).toInt64 &&& 1) 0) = 0) → Q (some (.int (1))) (ij_SH, hi, hl, ij_HR)) : ij_R (ij_xt N xs) 74 0 [some (.long a0), none, some (.int a1)] [] (ij_SH, hi, hl, ij_HR) Q := by
  refine ij_br 2 (a1 < 0) 24 4 [some (.long a0), none, some (.int a1)] [] (ij_SH, hi, hl, ij_HR) (fun n => rfl) (fun c1 => ?_) (fun c1 => ?_)
  · skip
    exact ij_ret 2 (some (.int (0))) (ij_SH, hi, hl, ij_HR) (fun n => rfl) (q0 c1)
  · skip
    refine ij_br 3 (64 ≤ a1) 24 10 [some (.long a0), none, some (.int a1)] [] (ij_SH, hi, hl, ij_HR) (fun n => rfl) (fun c2 => ?_) (fun c2 => ?_)
    · skip
      exact ij_ret 2 (some (.int (0))) (ij_SH, hi, hl, ij_HR) (fun n => rfl) (q1 c1 c2)
    · skip
      refine ij_br 8 ((lg_cmp (((a0 : Int64).toUInt64 >>> ((a1 : Int32).toInt64.toUInt64 &&& Int64.toUInt64 63)).toInt64 &&& 1) 0) = 0) 24 20 [some (.long a0), none, some (.int a1)] [] (ij_SH, hi, hl, ij_HR) (fun n => rfl) (fun c3 => ?_) (fun c3 => ?_)
      · skip
        exact ij_ret 2 (some (.int (0))) (ij_SH, hi, hl, ij_HR) (fun n => rfl) (q2 c1 c2 c3)
      · skip
        exact ij_ret 3 (some (.int (1))) (ij_SH, hi, hl, ij_HR) (fun n => rfl) (q3 c1 c2 c3)
set_option maxRecDepth 10000 in
-- ScaleForge$ScaleText.isTooLate(I)Z
theorem s75_12 {N : Nat} {xs : Nat → Int32} {hi : Nat → Nat → Int32} {hl : Nat → Nat → Int64} {Q : Option Value → ij_H → Prop} (a0 : Int32) (q0 : (a0 = 1) → ((lg_cmp ((hl 12 2) &&& ((((((f6 2 hi hl) ||| (f6 5 hi hl)) ||| (f6 7 hi hl)) ||| (f6 8 hi hl)) ||| (f6 9 hi hl)) ||| (f6 1 hi hl))) 0) = 0) → Q (some (.int (0))) (ij_SH, hi, hl, ij_HR)) (q1 : (a0 = 1) → ¬ ((lg_cmp ((hl 12 2) &&& ((((((f6 2 hi hl) ||| (f6 5 hi hl)) ||| (f6 7 hi hl)) ||| (f6 8 hi hl)) ||| (f6 9 hi hl)) ||| (f6 1 hi hl))) 0) = 0) → Q (some (.int (1))) (ij_SH, hi, hl, ij_HR)) (q2 : ¬ (a0 = 1) → (a0 = 9) → Q (some (.int (0))) (ij_SH, hi, hl, ij_HR)) (q3 : ¬ (a0 = 1) → ¬ (a0 = 9) → (a0 < 0) → Q (some (.int (0))) (ij_SH, hi, hl, ij_HR)) (q4 : ¬ (a0 = 1) → ¬ (a0 = 9) → ¬ (a0 < 0) → (64 ≤ a0) → Q (some (.int (0))) (ij_SH, hi, hl, ij_HR)) (q5 : ¬ (a0 = 1) → ¬ (a0 = 9) → ¬ (a0 < 0) → ¬ (64 ≤ a0) → ((lg_cmp ((((hl 12 2) : Int64).toUInt64 >>> ((a0 : Int32).toInt64.toUInt64 &&& Int64.toUInt64 63)).toInt64 &&& 1) 0) = 0) → Q (some (.int (0))) (ij_SH, hi, hl, ij_HR)) (q6 : ¬ (a0 = 1) → ¬ (a0 = 9) → ¬ (a0 < 0) → ¬ (64 ≤ a0) → ¬ ((lg_cmp ((((hl 12 2) : Int64).toUInt64 >>> ((a0 : Int32).toInt64.toUInt64 &&& Int64.toUInt64 63)).toInt64 &&& 1) 0) = 0) → Q (some (.int (1))) (ij_SH, hi, hl, ij_HR)) : ij_R (ij_xt N xs) 75 0 [some (.ref 12), some (.int a0), none, none] [] (ij_SH, hi, hl, ij_HR) Q := by
  refine ij_br 3 (a0 = 1) 5 55 [some (.ref 12), some (.int a0), none, none] [] (ij_SH, hi, hl, ij_HR) (fun n => rfl) (fun c1 => ?_) (fun c1 => ?_)
  · skip
    refine ij_call 2 6 [some (.int (2))] [] 9 [some (.ref 12), some (.int a0), none, none] (ij_SH, hi, hl, ij_HR) (fun n => rfl) (t6 2 ?_)
    -- back
    refine ij_call 2 6 [some (.int (5))] [.long ((f6 2 hi hl))] 13 [some (.ref 12), some (.int a0), none, none] (ij_SH, hi, hl, ij_HR) (fun n => rfl) (t6 5 ?_)
    -- back
    refine ij_call 3 6 [some (.int (7))] [.long (((f6 2 hi hl) ||| (f6 5 hi hl)))] 19 [some (.ref 12), some (.int a0), none, none] (ij_SH, hi, hl, ij_HR) (fun n => rfl) (t6 7 ?_)
    -- back
    refine ij_call 3 6 [some (.int (8))] [.long ((((f6 2 hi hl) ||| (f6 5 hi hl)) ||| (f6 7 hi hl)))] 25 [some (.ref 12), some (.int a0), none, none] (ij_SH, hi, hl, ij_HR) (fun n => rfl) (t6 8 ?_)
    -- back
    refine ij_call 3 6 [some (.int (9))] [.long (((((f6 2 hi hl) ||| (f6 5 hi hl)) ||| (f6 7 hi hl)) ||| (f6 8 hi hl)))] 31 [some (.ref 12), some (.int a0), none, none] (ij_SH, hi, hl, ij_HR) (fun n => rfl) (t6 9 ?_)
    -- back
    refine ij_call 7 6 [some (.int (1))] [.long ((((((f6 2 hi hl) ||| (f6 5 hi hl)) ||| (f6 7 hi hl)) ||| (f6 8 hi hl)) ||| (f6 9 hi hl))), .long ((hl 12 2))] 42 [some (.ref 12), some (.int a0), some (.long ((((((f6 2 hi hl) ||| (f6 5 hi hl)) ||| (f6 7 hi hl)) ||| (f6 8 hi hl)) ||| (f6 9 hi hl)))), none] (ij_SH, hi, hl, ij_HR) (fun n => rfl) (t6 1 ?_)
    -- back
    refine ij_br 5 ((lg_cmp ((hl 12 2) &&& ((((((f6 2 hi hl) ||| (f6 5 hi hl)) ||| (f6 7 hi hl)) ||| (f6 8 hi hl)) ||| (f6 9 hi hl)) ||| (f6 1 hi hl))) 0) = 0) 53 49 [some (.ref 12), some (.int a0), some (.long ((((((f6 2 hi hl) ||| (f6 5 hi hl)) ||| (f6 7 hi hl)) ||| (f6 8 hi hl)) ||| (f6 9 hi hl)))), none] [] (ij_SH, hi, hl, ij_HR) (fun n => rfl) (fun c2 => ?_) (fun c2 => ?_)
    · skip
      exact ij_ret 2 (some (.int (0))) (ij_SH, hi, hl, ij_HR) (fun n => rfl) (q0 c1 c2)
    · skip
      exact ij_ret 3 (some (.int (1))) (ij_SH, hi, hl, ij_HR) (fun n => rfl) (q1 c1 c2)
  · skip
    refine ij_br 3 (a0 = 9) 76 61 [some (.ref 12), some (.int a0), none, none] [] (ij_SH, hi, hl, ij_HR) (fun n => rfl) (fun c3 => ?_) (fun c3 => ?_)
    · skip
      exact ij_ret 2 (some (.int (0))) (ij_SH, hi, hl, ij_HR) (fun n => rfl) (q2 c1 c3)
    · skip
      refine ij_call 4 74 [some (.long ((hl 12 2))), none, some (.int a0)] [] 69 [some (.ref 12), some (.int a0), none, none] (ij_SH, hi, hl, ij_HR) (fun n => rfl) (s74 (hl 12 2) a0 (fun c4 => ?_) (fun c5 c6 => ?_) (fun c7 c8 c9 => ?_) (fun c10 c11 c12 => ?_))
      · skip
        exact ij_ret 3 (some (.int (0))) (ij_SH, hi, hl, ij_HR) (fun n => rfl) (q3 c1 c3 c4)
      · skip
        exact ij_ret 3 (some (.int (0))) (ij_SH, hi, hl, ij_HR) (fun n => rfl) (q4 c1 c3 c5 c6)
      · skip
        exact ij_ret 3 (some (.int (0))) (ij_SH, hi, hl, ij_HR) (fun n => rfl) (q5 c1 c3 c7 c8 c9)
      · skip
        exact ij_ret 4 (some (.int (1))) (ij_SH, hi, hl, ij_HR) (fun n => rfl) (q6 c1 c3 c10 c11 c12)
set_option maxRecDepth 10000 in
-- ScaleForge$Reader.isSignNow(C)Z
theorem s76_10 {N : Nat} {xs : Nat → Int32} {hi : Nat → Nat → Int32} {hl : Nat → Nat → Int64} {Q : Option Value → ij_H → Prop} (a0 : Int32) (q0 : ((hi 10 4) = 3) → ((hi 10 6) = a0) → Q (some (.int (1))) (ij_SH, hi, hl, ij_HR)) (q1 : ((hi 10 4) = 3) → ¬ ((hi 10 6) = a0) → Q (some (.int (0))) (ij_SH, hi, hl, ij_HR)) (q2 : ¬ ((hi 10 4) = 3) → Q (some (.int (0))) (ij_SH, hi, hl, ij_HR)) : ij_R (ij_xt N xs) 76 0 [some (.ref 10), some (.int a0)] [] (ij_SH, hi, hl, ij_HR) Q := by
  refine ij_br 4 ((hi 10 4) = 3) 8 20 [some (.ref 10), some (.int a0)] [] (ij_SH, hi, hl, ij_HR) (fun n => rfl) (fun c1 => ?_) (fun c1 => ?_)
  · skip
    refine ij_br 4 ((hi 10 6) = a0) 16 20 [some (.ref 10), some (.int a0)] [] (ij_SH, hi, hl, ij_HR) (fun n => rfl) (fun c2 => ?_) (fun c2 => ?_)
    · skip
      exact ij_ret 3 (some (.int (1))) (ij_SH, hi, hl, ij_HR) (fun n => rfl) (q0 c1 c2)
    · skip
      exact ij_ret 2 (some (.int (0))) (ij_SH, hi, hl, ij_HR) (fun n => rfl) (q1 c1 c2)
  · skip
    exact ij_ret 2 (some (.int (0))) (ij_SH, hi, hl, ij_HR) (fun n => rfl) (q2 c1)
set_option maxRecDepth 10000 in
-- ScaleForge$Scale.isTone(I)Z
theorem s77_23 {N : Nat} {xs : Nat → Int32} {hi : Nat → Nat → Int32} {hl : Nat → Nat → Int64} {Q : Option Value → ij_H → Prop} (a0 : Int32) (q0 : (a0 < 0) → Q (some (.int (0))) (ij_SH, hi, hl, ij_HR)) (q1 : ¬ (a0 < 0) → ((hi 24 1) ≤ a0) → Q (some (.int (0))) (ij_SH, hi, hl, ij_HR)) (q2 : ¬ (a0 < 0) → ¬ ((hi 24 1) ≤ a0) → Q (some (.int (1))) (ij_SH, hi, hl, ij_HR)) : ij_R (ij_xt N xs) 77 0 [some (.ref 23), some (.int a0)] [] (ij_SH, hi, hl, ij_HR) Q := by
  refine ij_br 2 (a0 < 0) 18 4 [some (.ref 23), some (.int a0)] [] (ij_SH, hi, hl, ij_HR) (fun n => rfl) (fun c1 => ?_) (fun c1 => ?_)
  · skip
    exact ij_ret 2 (some (.int (0))) (ij_SH, hi, hl, ij_HR) (fun n => rfl) (q0 c1)
  · skip
    refine ij_br 6 ((hi 24 1) ≤ a0) 18 14 [some (.ref 23), some (.int a0)] [] (ij_SH, hi, hl, ij_HR) (fun n => rfl) (fun c2 => ?_) (fun c2 => ?_)
    · skip
      exact ij_ret 2 (some (.int (0))) (ij_SH, hi, hl, ij_HR) (fun n => rfl) (q1 c1 c2)
    · skip
      exact ij_ret 3 (some (.int (1))) (ij_SH, hi, hl, ij_HR) (fun n => rfl) (q2 c1 c2)
set_option maxRecDepth 10000 in
-- ScaleForge$Scale.isTone(I)Z
theorem s77_44 {N : Nat} {xs : Nat → Int32} {hi : Nat → Nat → Int32} {hl : Nat → Nat → Int64} {Q : Option Value → ij_H → Prop} (a0 : Int32) (q0 : (a0 < 0) → Q (some (.int (0))) (ij_SH, hi, hl, ij_HR)) (q1 : ¬ (a0 < 0) → ((hi 45 1) ≤ a0) → Q (some (.int (0))) (ij_SH, hi, hl, ij_HR)) (q2 : ¬ (a0 < 0) → ¬ ((hi 45 1) ≤ a0) → Q (some (.int (1))) (ij_SH, hi, hl, ij_HR)) : ij_R (ij_xt N xs) 77 0 [some (.ref 44), some (.int a0)] [] (ij_SH, hi, hl, ij_HR) Q := by
  refine ij_br 2 (a0 < 0) 18 4 [some (.ref 44), some (.int a0)] [] (ij_SH, hi, hl, ij_HR) (fun n => rfl) (fun c1 => ?_) (fun c1 => ?_)
  · skip
    exact ij_ret 2 (some (.int (0))) (ij_SH, hi, hl, ij_HR) (fun n => rfl) (q0 c1)
  · skip
    refine ij_br 6 ((hi 45 1) ≤ a0) 18 14 [some (.ref 44), some (.int a0)] [] (ij_SH, hi, hl, ij_HR) (fun n => rfl) (fun c2 => ?_) (fun c2 => ?_)
    · skip
      exact ij_ret 2 (some (.int (0))) (ij_SH, hi, hl, ij_HR) (fun n => rfl) (q1 c1 c2)
    · skip
      exact ij_ret 3 (some (.int (1))) (ij_SH, hi, hl, ij_HR) (fun n => rfl) (q2 c1 c2)
set_option maxRecDepth 10000 in
-- ScaleForge$Scale.isTone(I)Z
theorem s77_13 {N : Nat} {xs : Nat → Int32} {hi : Nat → Nat → Int32} {hl : Nat → Nat → Int64} {Q : Option Value → ij_H → Prop} (a0 : Int32) (q0 : (a0 < 0) → Q (some (.int (0))) (ij_SH, hi, hl, ij_HR)) (q1 : ¬ (a0 < 0) → ((hi 14 1) ≤ a0) → Q (some (.int (0))) (ij_SH, hi, hl, ij_HR)) (q2 : ¬ (a0 < 0) → ¬ ((hi 14 1) ≤ a0) → Q (some (.int (1))) (ij_SH, hi, hl, ij_HR)) : ij_R (ij_xt N xs) 77 0 [some (.ref 13), some (.int a0)] [] (ij_SH, hi, hl, ij_HR) Q := by
  refine ij_br 2 (a0 < 0) 18 4 [some (.ref 13), some (.int a0)] [] (ij_SH, hi, hl, ij_HR) (fun n => rfl) (fun c1 => ?_) (fun c1 => ?_)
  · skip
    exact ij_ret 2 (some (.int (0))) (ij_SH, hi, hl, ij_HR) (fun n => rfl) (q0 c1)
  · skip
    refine ij_br 6 ((hi 14 1) ≤ a0) 18 14 [some (.ref 13), some (.int a0)] [] (ij_SH, hi, hl, ij_HR) (fun n => rfl) (fun c2 => ?_) (fun c2 => ?_)
    · skip
      exact ij_ret 2 (some (.int (0))) (ij_SH, hi, hl, ij_HR) (fun n => rfl) (q1 c1 c2)
    · skip
      exact ij_ret 3 (some (.int (1))) (ij_SH, hi, hl, ij_HR) (fun n => rfl) (q2 c1 c2)
set_option maxRecDepth 10000 in
-- ScaleForge.leastOf(I)I
theorem s79 {N : Nat} {xs : Nat → Int32} {hi : Nat → Nat → Int32} {hl : Nat → Nat → Int64} {Q : Option Value → ij_H → Prop} (a0 : Int32) (q0 : (a0 < 0) → Q (some (.int (0))) (ij_SH, hi, hl, ij_HR)) (q1 : ¬ (a0 < 0) → (9 ≤ a0) → Q (some (.int (0))) (ij_SH, hi, hl, ij_HR)) (q2 : ¬ (a0 < 0) → ¬ (9 ≤ a0) → Q (some (.int (((ij_sa.getD 1 []).getD (a0 : Int32).toNatClampNeg 0)))) (ij_SH, hi, hl, ij_HR)) : ij_R (ij_xt N xs) 79 0 [some (.int a0)] [] (ij_SH, hi, hl, ij_HR) Q := by
  refine ij_br 2 (a0 < 0) 20 4 [some (.int a0)] [] (ij_SH, hi, hl, ij_HR) (fun n => rfl) (fun c1 => ?_) (fun c1 => ?_)
  · skip
    exact ij_ret 2 (some (.int (0))) (ij_SH, hi, hl, ij_HR) (fun n => rfl) (q0 c1)
  · skip
    refine ij_br 4 (9 ≤ a0) 20 12 [some (.int a0)] [] (ij_SH, hi, hl, ij_HR) (fun n => rfl) (fun c2 => ?_) (fun c2 => ?_)
    · skip
      exact ij_ret 2 (some (.int (0))) (ij_SH, hi, hl, ij_HR) (fun n => rfl) (q1 c1 c2)
    · skip
      refine ij_go 2 16 [some (.int a0)] [.int a0, .ref 1000002] (ij_SH, hi, hl, ij_HR) (fun n => rfl) ?_
      refine ij_xal (f := fun j => (ij_sa.getD 1 []).getD j 0) rfl rfl rfl (ij_bd c1 (Int32.not_le.mp c2) (by decide)) ?_
      exact ij_ret 2 (some (.int (((ij_sa.getD 1 []).getD (a0 : Int32).toNatClampNeg 0)))) (ij_SH, hi, hl, ij_HR) (fun n => rfl) (q2 c1 c2)
def f79 (a0 : Int32) (hi : Nat → Nat → Int32) (hl : Nat → Nat → Int64) : Int32 := if a0 < 0 then (0) else (if 9 ≤ a0 then (0) else (((ij_sa.getD 1 []).getD (a0 : Int32).toNatClampNeg 0)))
theorem t79 {N : Nat} {xs : Nat → Int32} {hi : Nat → Nat → Int32} {hl : Nat → Nat → Int64} {Q : Option Value → ij_H → Prop} (a0 : Int32) (q : Q (some (.int (f79 a0 hi hl))) (ij_SH, hi, hl, ij_HR)) : ij_R (ij_xt N xs) 79 0 [some (.int a0)] [] (ij_SH, hi, hl, ij_HR) Q :=
  s79 a0 (fun k0 => by rw [f79, if_pos k0] at q; exact q) (fun k0 k1 => by rw [f79, if_neg k0, if_pos k1] at q; exact q) (fun k0 k1 => by rw [f79, if_neg k0, if_neg k1] at q; exact q)
set_option maxRecDepth 10000 in
-- ScaleForge$Scale.period()I
theorem s80_23 {N : Nat} {xs : Nat → Int32} {hi : Nat → Nat → Int32} {hl : Nat → Nat → Int64} {Q : Option Value → ij_H → Prop} (q0 : Q (some (.int ((hi 24 1)))) (ij_SH, hi, hl, ij_HR)) : ij_R (ij_xt N xs) 80 0 [some (.ref 23)] [] (ij_SH, hi, hl, ij_HR) Q := by
  exact ij_ret 5 (some (.int ((hi 24 1)))) (ij_SH, hi, hl, ij_HR) (fun n => rfl) (q0)
set_option maxRecDepth 10000 in
-- ScaleForge$Scale.period()I
theorem s80_44 {N : Nat} {xs : Nat → Int32} {hi : Nat → Nat → Int32} {hl : Nat → Nat → Int64} {Q : Option Value → ij_H → Prop} (q0 : Q (some (.int ((hi 45 1)))) (ij_SH, hi, hl, ij_HR)) : ij_R (ij_xt N xs) 80 0 [some (.ref 44)] [] (ij_SH, hi, hl, ij_HR) Q := by
  exact ij_ret 5 (some (.int ((hi 45 1)))) (ij_SH, hi, hl, ij_HR) (fun n => rfl) (q0)
set_option maxRecDepth 10000 in
-- ScaleForge$Scale.period()I
theorem s80_13 {N : Nat} {xs : Nat → Int32} {hi : Nat → Nat → Int32} {hl : Nat → Nat → Int64} {Q : Option Value → ij_H → Prop} (q0 : Q (some (.int ((hi 14 1)))) (ij_SH, hi, hl, ij_HR)) : ij_R (ij_xt N xs) 80 0 [some (.ref 13)] [] (ij_SH, hi, hl, ij_HR) Q := by
  exact ij_ret 5 (some (.int ((hi 14 1)))) (ij_SH, hi, hl, ij_HR) (fun n => rfl) (q0)
set_option maxRecDepth 10000 in
-- ScaleForge.mostOf(II)I
theorem s81 {N : Nat} {xs : Nat → Int32} {hi : Nat → Nat → Int32} {hl : Nat → Nat → Int64} {Q : Option Value → ij_H → Prop} (a0 : Int32) (a1 : Int32) (q0 : (a0 = 2) → Q (some (.int ((a1 - 1)))) (ij_SH, hi, hl, ij_HR)) (q1 : ¬ (a0 = 2) → (a0 = 5) → Q (some (.int ((a1 - 1)))) (ij_SH, hi, hl, ij_HR)) (q2 : ¬ (a0 = 2) → ¬ (a0 = 5) → (a0 = 7) → Q (some (.int ((a1 - 1)))) (ij_SH, hi, hl, ij_HR)) (q3 : ¬ (a0 = 2) → ¬ (a0 = 5) → ¬ (a0 = 7) → (a0 = 8) → Q (some (.int ((a1 - 1)))) (ij_SH, hi, hl, ij_HR)) (q4 : ¬ (a0 = 2) → ¬ (a0 = 5) → ¬ (a0 = 7) → ¬ (a0 = 8) → (a0 < 0) → Q (some (.int (0))) (ij_SH, hi, hl, ij_HR)) (q5 : ¬ (a0 = 2) → ¬ (a0 = 5) → ¬ (a0 = 7) → ¬ (a0 = 8) → ¬ (a0 < 0) → (9 ≤ a0) → Q (some (.int (0))) (ij_SH, hi, hl, ij_HR)) (q6 : ¬ (a0 = 2) → ¬ (a0 = 5) → ¬ (a0 = 7) → ¬ (a0 = 8) → ¬ (a0 < 0) → ¬ (9 ≤ a0) → Q (some (.int (((ij_sa.getD 2 []).getD (a0 : Int32).toNatClampNeg 0)))) (ij_SH, hi, hl, ij_HR)) : ij_R (ij_xt N xs) 81 0 [some (.int a0), some (.int a1)] [] (ij_SH, hi, hl, ij_HR) Q := by
  refine ij_call 2 3 [some (.int a0)] [] 4 [some (.int a0), some (.int a1)] (ij_SH, hi, hl, ij_HR) (fun n => rfl) (s3 a0 (fun c1 => ?_) (fun c2 c3 => ?_) (fun c4 c5 c6 => ?_) (fun c7 c8 c9 c10 => ?_) (fun c11 c12 c13 c14 => ?_))
  · skip
    exact ij_ret 5 (some (.int ((a1 - 1)))) (ij_SH, hi, hl, ij_HR) (fun n => rfl) (q0 c1)
  · skip
    exact ij_ret 5 (some (.int ((a1 - 1)))) (ij_SH, hi, hl, ij_HR) (fun n => rfl) (q1 c2 c3)
  · skip
    exact ij_ret 5 (some (.int ((a1 - 1)))) (ij_SH, hi, hl, ij_HR) (fun n => rfl) (q2 c4 c5 c6)
  · skip
    exact ij_ret 5 (some (.int ((a1 - 1)))) (ij_SH, hi, hl, ij_HR) (fun n => rfl) (q3 c7 c8 c9 c10)
  · skip
    refine ij_br 3 (a0 < 0) 31 15 [some (.int a0), some (.int a1)] [] (ij_SH, hi, hl, ij_HR) (fun n => rfl) (fun c15 => ?_) (fun c15 => ?_)
    · skip
      exact ij_ret 2 (some (.int (0))) (ij_SH, hi, hl, ij_HR) (fun n => rfl) (q4 c11 c12 c13 c14 c15)
    · skip
      refine ij_br 4 (9 ≤ a0) 31 23 [some (.int a0), some (.int a1)] [] (ij_SH, hi, hl, ij_HR) (fun n => rfl) (fun c16 => ?_) (fun c16 => ?_)
      · skip
        exact ij_ret 2 (some (.int (0))) (ij_SH, hi, hl, ij_HR) (fun n => rfl) (q5 c11 c12 c13 c14 c15 c16)
      · skip
        refine ij_go 2 27 [some (.int a0), some (.int a1)] [.int a0, .ref 1000003] (ij_SH, hi, hl, ij_HR) (fun n => rfl) ?_
        refine ij_xal (f := fun j => (ij_sa.getD 2 []).getD j 0) rfl rfl rfl (ij_bd c15 (Int32.not_le.mp c16) (by decide)) ?_
        exact ij_ret 2 (some (.int (((ij_sa.getD 2 []).getD (a0 : Int32).toNatClampNeg 0)))) (ij_SH, hi, hl, ij_HR) (fun n => rfl) (q6 c11 c12 c13 c14 c15 c16)
def f81 (a0 : Int32) (a1 : Int32) (hi : Nat → Nat → Int32) (hl : Nat → Nat → Int64) : Int32 := if a0 = 2 then ((a1 - 1)) else (if a0 = 5 then ((a1 - 1)) else (if a0 = 7 then ((a1 - 1)) else (if a0 = 8 then ((a1 - 1)) else (if a0 < 0 then (0) else (if 9 ≤ a0 then (0) else (((ij_sa.getD 2 []).getD (a0 : Int32).toNatClampNeg 0)))))))
theorem t81 {N : Nat} {xs : Nat → Int32} {hi : Nat → Nat → Int32} {hl : Nat → Nat → Int64} {Q : Option Value → ij_H → Prop} (a0 : Int32) (a1 : Int32) (q : Q (some (.int (f81 a0 a1 hi hl))) (ij_SH, hi, hl, ij_HR)) : ij_R (ij_xt N xs) 81 0 [some (.int a0), some (.int a1)] [] (ij_SH, hi, hl, ij_HR) Q :=
  s81 a0 a1 (fun k0 => by rw [f81, if_pos k0] at q; exact q) (fun k0 k1 => by rw [f81, if_neg k0, if_pos k1] at q; exact q) (fun k0 k1 k2 => by rw [f81, if_neg k0, if_neg k1, if_pos k2] at q; exact q) (fun k0 k1 k2 k3 => by rw [f81, if_neg k0, if_neg k1, if_neg k2, if_pos k3] at q; exact q) (fun k0 k1 k2 k3 k4 => by rw [f81, if_neg k0, if_neg k1, if_neg k2, if_neg k3, if_pos k4] at q; exact q) (fun k0 k1 k2 k3 k4 k5 => by rw [f81, if_neg k0, if_neg k1, if_neg k2, if_neg k3, if_neg k4, if_pos k5] at q; exact q) (fun k0 k1 k2 k3 k4 k5 => by rw [f81, if_neg k0, if_neg k1, if_neg k2, if_neg k3, if_neg k4, if_neg k5] at q; exact q)
set_option maxRecDepth 10000 in
-- ScaleForge$Scale.setPart(II)V
theorem s83_23 {N : Nat} {xs : Nat → Int32} {hi : Nat → Nat → Int32} {hl : Nat → Nat → Int64} {Q : Option Value → ij_H → Prop} (a0 : Int32) (a1 : Int32) (q0 : (a0 < 0) → Q (none) (ij_SH, hi, hl, ij_HR)) (q1 : ¬ (a0 < 0) → (9 ≤ a0) → Q (none) (ij_SH, hi, hl, ij_HR)) (q2 : ¬ (a0 < 0) → ¬ (9 ≤ a0) → Q (none) (ij_SH, (ij_ui hi 24 (a0).toNatClampNeg a1), hl, ij_HR)) : ij_R (ij_xt N xs) 83 0 [some (.ref 23), some (.int a0), some (.int a1)] [] (ij_SH, hi, hl, ij_HR) Q := by
  refine ij_br 2 (a0 < 0) 20 4 [some (.ref 23), some (.int a0), some (.int a1)] [] (ij_SH, hi, hl, ij_HR) (fun n => rfl) (fun c1 => ?_) (fun c1 => ?_)
  · skip
    exact ij_ret 1 (none) (ij_SH, hi, hl, ij_HR) (fun n => rfl) (q0 c1)
  · skip
    refine ij_br 5 (9 ≤ a0) 20 13 [some (.ref 23), some (.int a0), some (.int a1)] [] (ij_SH, hi, hl, ij_HR) (fun n => rfl) (fun c2 => ?_) (fun c2 => ?_)
    · skip
      exact ij_ret 1 (none) (ij_SH, hi, hl, ij_HR) (fun n => rfl) (q1 c1 c2)
    · skip
      refine ij_go 4 19 [some (.ref 23), some (.int a0), some (.int a1)] [.int a1, .int a0, .ref 24] (ij_SH, hi, hl, ij_HR) (fun n => rfl) ?_
      refine ij_ias rfl rfl rfl (ij_bd c1 (Int32.not_le.mp c2) (by decide)) ?_
      exact ij_ret 1 (none) (ij_SH, (ij_ui hi 24 (a0).toNatClampNeg a1), hl, ij_HR) (fun n => rfl) (q2 c1 c2)
set_option maxRecDepth 10000 in
-- ScaleForge$Scale.setPart(II)V
theorem s83_44 {N : Nat} {xs : Nat → Int32} {hi : Nat → Nat → Int32} {hl : Nat → Nat → Int64} {Q : Option Value → ij_H → Prop} (a0 : Int32) (a1 : Int32) (q0 : (a0 < 0) → Q (none) (ij_SH, hi, hl, ij_HR)) (q1 : ¬ (a0 < 0) → (9 ≤ a0) → Q (none) (ij_SH, hi, hl, ij_HR)) (q2 : ¬ (a0 < 0) → ¬ (9 ≤ a0) → Q (none) (ij_SH, (ij_ui hi 45 (a0).toNatClampNeg a1), hl, ij_HR)) : ij_R (ij_xt N xs) 83 0 [some (.ref 44), some (.int a0), some (.int a1)] [] (ij_SH, hi, hl, ij_HR) Q := by
  refine ij_br 2 (a0 < 0) 20 4 [some (.ref 44), some (.int a0), some (.int a1)] [] (ij_SH, hi, hl, ij_HR) (fun n => rfl) (fun c1 => ?_) (fun c1 => ?_)
  · skip
    exact ij_ret 1 (none) (ij_SH, hi, hl, ij_HR) (fun n => rfl) (q0 c1)
  · skip
    refine ij_br 5 (9 ≤ a0) 20 13 [some (.ref 44), some (.int a0), some (.int a1)] [] (ij_SH, hi, hl, ij_HR) (fun n => rfl) (fun c2 => ?_) (fun c2 => ?_)
    · skip
      exact ij_ret 1 (none) (ij_SH, hi, hl, ij_HR) (fun n => rfl) (q1 c1 c2)
    · skip
      refine ij_go 4 19 [some (.ref 44), some (.int a0), some (.int a1)] [.int a1, .int a0, .ref 45] (ij_SH, hi, hl, ij_HR) (fun n => rfl) ?_
      refine ij_ias rfl rfl rfl (ij_bd c1 (Int32.not_le.mp c2) (by decide)) ?_
      exact ij_ret 1 (none) (ij_SH, (ij_ui hi 45 (a0).toNatClampNeg a1), hl, ij_HR) (fun n => rfl) (q2 c1 c2)
set_option maxRecDepth 10000 in
-- ScaleForge$Scale.setPart(II)V
theorem s83_13 {N : Nat} {xs : Nat → Int32} {hi : Nat → Nat → Int32} {hl : Nat → Nat → Int64} {Q : Option Value → ij_H → Prop} (a0 : Int32) (a1 : Int32) (q0 : (a0 < 0) → Q (none) (ij_SH, hi, hl, ij_HR)) (q1 : ¬ (a0 < 0) → (9 ≤ a0) → Q (none) (ij_SH, hi, hl, ij_HR)) (q2 : ¬ (a0 < 0) → ¬ (9 ≤ a0) → Q (none) (ij_SH, (ij_ui hi 14 (a0).toNatClampNeg a1), hl, ij_HR)) : ij_R (ij_xt N xs) 83 0 [some (.ref 13), some (.int a0), some (.int a1)] [] (ij_SH, hi, hl, ij_HR) Q := by
  refine ij_br 2 (a0 < 0) 20 4 [some (.ref 13), some (.int a0), some (.int a1)] [] (ij_SH, hi, hl, ij_HR) (fun n => rfl) (fun c1 => ?_) (fun c1 => ?_)
  · skip
    exact ij_ret 1 (none) (ij_SH, hi, hl, ij_HR) (fun n => rfl) (q0 c1)
  · skip
    refine ij_br 5 (9 ≤ a0) 20 13 [some (.ref 13), some (.int a0), some (.int a1)] [] (ij_SH, hi, hl, ij_HR) (fun n => rfl) (fun c2 => ?_) (fun c2 => ?_)
    · skip
      exact ij_ret 1 (none) (ij_SH, hi, hl, ij_HR) (fun n => rfl) (q1 c1 c2)
    · skip
      refine ij_go 4 19 [some (.ref 13), some (.int a0), some (.int a1)] [.int a1, .int a0, .ref 14] (ij_SH, hi, hl, ij_HR) (fun n => rfl) ?_
      refine ij_ias rfl rfl rfl (ij_bd c1 (Int32.not_le.mp c2) (by decide)) ?_
      exact ij_ret 1 (none) (ij_SH, (ij_ui hi 14 (a0).toNatClampNeg a1), hl, ij_HR) (fun n => rfl) (q2 c1 c2)
set_option maxRecDepth 10000 in
-- ScaleForge$Scale.degreesMany()I
theorem s89_23 {N : Nat} {xs : Nat → Int32} {hi : Nat → Nat → Int32} {hl : Nat → Nat → Int64} {Q : Option Value → ij_H → Prop} (q0 : Q (some (.int ((ij_pc (hl 23 4))))) (ij_SH, hi, hl, ij_HR)) : ij_R (ij_xt N xs) 89 0 [some (.ref 23)] [] (ij_SH, hi, hl, ij_HR) Q := by
  refine ij_call 3 88 [some (.long ((hl 23 4))), none] [] 7 [some (.ref 23)] (ij_SH, hi, hl, ij_HR) (fun n => rfl) (s_bitCount (hl 23 4) ?_)
  -- back
  exact ij_ret 1 (some (.int ((ij_pc (hl 23 4))))) (ij_SH, hi, hl, ij_HR) (fun n => rfl) (q0)
set_option maxRecDepth 10000 in
-- ScaleForge$Scale.degreesMany()I
theorem s89_44 {N : Nat} {xs : Nat → Int32} {hi : Nat → Nat → Int32} {hl : Nat → Nat → Int64} {Q : Option Value → ij_H → Prop} (q0 : Q (some (.int ((ij_pc (hl 44 4))))) (ij_SH, hi, hl, ij_HR)) : ij_R (ij_xt N xs) 89 0 [some (.ref 44)] [] (ij_SH, hi, hl, ij_HR) Q := by
  refine ij_call 3 88 [some (.long ((hl 44 4))), none] [] 7 [some (.ref 44)] (ij_SH, hi, hl, ij_HR) (fun n => rfl) (s_bitCount (hl 44 4) ?_)
  -- back
  exact ij_ret 1 (some (.int ((ij_pc (hl 44 4))))) (ij_SH, hi, hl, ij_HR) (fun n => rfl) (q0)
set_option maxRecDepth 10000 in
-- ScaleForge$Scale.degreesMany()I
theorem s89_13 {N : Nat} {xs : Nat → Int32} {hi : Nat → Nat → Int32} {hl : Nat → Nat → Int64} {Q : Option Value → ij_H → Prop} (q0 : Q (some (.int ((ij_pc (hl 13 4))))) (ij_SH, hi, hl, ij_HR)) : ij_R (ij_xt N xs) 89 0 [some (.ref 13)] [] (ij_SH, hi, hl, ij_HR) Q := by
  refine ij_call 3 88 [some (.long ((hl 13 4))), none] [] 7 [some (.ref 13)] (ij_SH, hi, hl, ij_HR) (fun n => rfl) (s_bitCount (hl 13 4) ?_)
  -- back
  exact ij_ret 1 (some (.int ((ij_pc (hl 13 4))))) (ij_SH, hi, hl, ij_HR) (fun n => rfl) (q0)
set_option maxRecDepth 10000 in
-- ScaleForge.give(I)I
theorem s90_0 {N : Nat} {xs : Nat → Int32} {hi : Nat → Nat → Int32} {hl : Nat → Nat → Int64} {Q : Option Value → ij_H → Prop} (a0 : Int32) (q0 : Q (some (.int a0)) (ij_SH, (ij_ui hi 0 0 0), hl, ij_HR)) : ij_R (ij_xt N xs) 90 0 [some (.ref 0), some (.int a0)] [] (ij_SH, hi, hl, ij_HR) Q := by
  exact ij_ret 5 (some (.int a0)) (ij_SH, (ij_ui hi 0 0 0), hl, ij_HR) (fun n => rfl) (q0)
set_option maxRecDepth 10000 in
-- ScaleForgeModel.byteAt(I)I
theorem s92_77 {N : Nat} {xs : Nat → Int32} {hi : Nat → Nat → Int32} {hl : Nat → Nat → Int64} {Q : Option Value → ij_H → Prop} (a0 : Int32) (b0 : ¬ ((hi 77 10) ≤ a0) → ¬ (a0 < 0 ∨ 900 ≤ (a0 : Int32).toNatClampNeg)) (q0 : ((hi 77 10) ≤ a0) → Q (some (.int ((-1)))) (ij_SH, hi, hl, ij_HR)) (q1 : ¬ ((hi 77 10) ≤ a0) → Q (some (.int (((hi 83 (a0).toNatClampNeg) &&& 255)))) (ij_SH, hi, hl, ij_HR)) : ij_R (ij_xt N xs) 92 0 [some (.ref 77), some (.int a0)] [] (ij_SH, hi, hl, ij_HR) Q := by
  refine ij_br 4 ((hi 77 10) ≤ a0) 21 8 [some (.ref 77), some (.int a0)] [] (ij_SH, hi, hl, ij_HR) (fun n => rfl) (fun c1 => ?_) (fun c1 => ?_)
  · skip
    exact ij_ret 2 (some (.int ((-1)))) (ij_SH, hi, hl, ij_HR) (fun n => rfl) (q0 c1)
  · skip
    refine ij_go 3 13 [some (.ref 77), some (.int a0)] [.int a0, .ref 83] (ij_SH, hi, hl, ij_HR) (fun n => rfl) ?_
    refine ij_bal rfl rfl rfl (b0 c1) ?_
    exact ij_ret 4 (some (.int (((hi 83 (a0).toNatClampNeg) &&& 255)))) (ij_SH, hi, hl, ij_HR) (fun n => rfl) (q1 c1)
def f92_77 (a0 : Int32) (hi : Nat → Nat → Int32) (hl : Nat → Nat → Int64) : Int32 := if (hi 77 10) ≤ a0 then ((-1)) else (((hi 83 (a0).toNatClampNeg) &&& 255))
theorem t92_77 {N : Nat} {xs : Nat → Int32} {hi : Nat → Nat → Int32} {hl : Nat → Nat → Int64} {Q : Option Value → ij_H → Prop} (a0 : Int32) (b0 : ¬ ((hi 77 10) ≤ a0) → ¬ (a0 < 0 ∨ 900 ≤ (a0 : Int32).toNatClampNeg)) (q : Q (some (.int (f92_77 a0 hi hl))) (ij_SH, hi, hl, ij_HR)) : ij_R (ij_xt N xs) 92 0 [some (.ref 77), some (.int a0)] [] (ij_SH, hi, hl, ij_HR) Q :=
  s92_77 a0 b0 (fun k0 => by rw [f92_77, if_pos k0] at q; exact q) (fun k0 => by rw [f92_77, if_neg k0] at q; exact q)
set_option maxRecDepth 10000 in
-- ScaleForgeModel.isSmall(I)Z
theorem s93 {N : Nat} {xs : Nat → Int32} {hi : Nat → Nat → Int32} {hl : Nat → Nat → Int64} {Q : Option Value → ij_H → Prop} (a0 : Int32) (q0 : (a0 < 97) → Q (some (.int (0))) (ij_SH, hi, hl, ij_HR)) (q1 : ¬ (a0 < 97) → (122 < a0) → Q (some (.int (0))) (ij_SH, hi, hl, ij_HR)) (q2 : ¬ (a0 < 97) → ¬ (122 < a0) → Q (some (.int (1))) (ij_SH, hi, hl, ij_HR)) : ij_R (ij_xt N xs) 93 0 [some (.int a0)] [] (ij_SH, hi, hl, ij_HR) Q := by
  refine ij_br 3 (a0 < 97) 16 6 [some (.int a0)] [] (ij_SH, hi, hl, ij_HR) (fun n => rfl) (fun c1 => ?_) (fun c1 => ?_)
  · skip
    exact ij_ret 2 (some (.int (0))) (ij_SH, hi, hl, ij_HR) (fun n => rfl) (q0 c1)
  · skip
    refine ij_br 3 (122 < a0) 16 12 [some (.int a0)] [] (ij_SH, hi, hl, ij_HR) (fun n => rfl) (fun c2 => ?_) (fun c2 => ?_)
    · skip
      exact ij_ret 2 (some (.int (0))) (ij_SH, hi, hl, ij_HR) (fun n => rfl) (q1 c1 c2)
    · skip
      exact ij_ret 3 (some (.int (1))) (ij_SH, hi, hl, ij_HR) (fun n => rfl) (q2 c1 c2)
set_option maxRecDepth 10000 in
-- ScaleForgeModel.isDigit(I)Z
theorem s94 {N : Nat} {xs : Nat → Int32} {hi : Nat → Nat → Int32} {hl : Nat → Nat → Int64} {Q : Option Value → ij_H → Prop} (a0 : Int32) (q0 : (a0 < 48) → Q (some (.int (0))) (ij_SH, hi, hl, ij_HR)) (q1 : ¬ (a0 < 48) → (57 < a0) → Q (some (.int (0))) (ij_SH, hi, hl, ij_HR)) (q2 : ¬ (a0 < 48) → ¬ (57 < a0) → Q (some (.int (1))) (ij_SH, hi, hl, ij_HR)) : ij_R (ij_xt N xs) 94 0 [some (.int a0)] [] (ij_SH, hi, hl, ij_HR) Q := by
  refine ij_br 3 (a0 < 48) 16 6 [some (.int a0)] [] (ij_SH, hi, hl, ij_HR) (fun n => rfl) (fun c1 => ?_) (fun c1 => ?_)
  · skip
    exact ij_ret 2 (some (.int (0))) (ij_SH, hi, hl, ij_HR) (fun n => rfl) (q0 c1)
  · skip
    refine ij_br 3 (57 < a0) 16 12 [some (.int a0)] [] (ij_SH, hi, hl, ij_HR) (fun n => rfl) (fun c2 => ?_) (fun c2 => ?_)
    · skip
      exact ij_ret 2 (some (.int (0))) (ij_SH, hi, hl, ij_HR) (fun n => rfl) (q1 c1 c2)
    · skip
      exact ij_ret 3 (some (.int (1))) (ij_SH, hi, hl, ij_HR) (fun n => rfl) (q2 c1 c2)
set_option maxRecDepth 10000 in
-- java/lang/Math.min(II)I
theorem s95 {N : Nat} {xs : Nat → Int32} {hi : Nat → Nat → Int32} {hl : Nat → Nat → Int64} {Q : Option Value → ij_H → Prop} (a0 : Int32) (a1 : Int32) (q0 : (a1 < a0) → Q (some (.int a1)) (ij_SH, hi, hl, ij_HR)) (q1 : ¬ (a1 < a0) → Q (some (.int a0)) (ij_SH, hi, hl, ij_HR)) : ij_R (ij_xt N xs) 95 0 [some (.int a0), some (.int a1)] [] (ij_SH, hi, hl, ij_HR) Q := by
  refine ij_br 3 (a1 < a0) 9 5 [some (.int a0), some (.int a1)] [] (ij_SH, hi, hl, ij_HR) (fun n => rfl) (fun c1 => ?_) (fun c1 => ?_)
  · skip
    exact ij_ret 2 (some (.int a1)) (ij_SH, hi, hl, ij_HR) (fun n => rfl) (q0 c1)
  · skip
    exact ij_ret 3 (some (.int a0)) (ij_SH, hi, hl, ij_HR) (fun n => rfl) (q1 c1)
def f95 (a0 : Int32) (a1 : Int32) (hi : Nat → Nat → Int32) (hl : Nat → Nat → Int64) : Int32 := if a1 < a0 then (a1) else (a0)
theorem t95 {N : Nat} {xs : Nat → Int32} {hi : Nat → Nat → Int32} {hl : Nat → Nat → Int64} {Q : Option Value → ij_H → Prop} (a0 : Int32) (a1 : Int32) (q : Q (some (.int (f95 a0 a1 hi hl))) (ij_SH, hi, hl, ij_HR)) : ij_R (ij_xt N xs) 95 0 [some (.int a0), some (.int a1)] [] (ij_SH, hi, hl, ij_HR) Q :=
  s95 a0 a1 (fun k0 => by rw [f95, if_pos k0] at q; exact q) (fun k0 => by rw [f95, if_neg k0] at q; exact q)
set_option maxRecDepth 10000 in
-- ScaleForgeModel.refuse(I)I
theorem s98_77 {N : Nat} {xs : Nat → Int32} {hi : Nat → Nat → Int32} {hl : Nat → Nat → Int64} {Q : Option Value → ij_H → Prop} (a0 : Int32) (q0 : Q (some (.int ((-1)))) (ij_SH, (ij_ui hi 77 1 a0), hl, ij_HR)) : ij_R (ij_xt N xs) 98 0 [some (.ref 77), some (.int a0)] [] (ij_SH, hi, hl, ij_HR) Q := by
  exact ij_ret 5 (some (.int ((-1)))) (ij_SH, (ij_ui hi 77 1 a0), hl, ij_HR) (fun n => rfl) (q0)
set_option maxRecDepth 10000 in
-- ScaleForgeModel.fails(I)Z
theorem s100_77 {N : Nat} {xs : Nat → Int32} {hi : Nat → Nat → Int32} {hl : Nat → Nat → Int64} {Q : Option Value → ij_H → Prop} (a0 : Int32) (q0 : ((hi 77 17) = 0) → ((hi 77 11) = 1) → Q (some (.int (0))) (ij_SH, (ij_ui (ij_ui hi 77 17 1) 77 16 (hi 77 12)), hl, ij_HR)) (q1 : ((hi 77 17) = 0) → ¬ ((hi 77 11) = 1) → Q (some (.int (0))) (ij_SH, (ij_ui (ij_ui hi 77 17 a0) 77 16 (hi 77 12)), hl, ij_HR)) (q2 : ¬ ((hi 77 17) = 0) → Q (some (.int (0))) (ij_SH, hi, hl, ij_HR)) : ij_R (ij_xt N xs) 100 0 [some (.ref 77), some (.int a0)] [] (ij_SH, hi, hl, ij_HR) Q := by
  refine ij_br 3 ((hi 77 17) = 0) 7 32 [some (.ref 77), some (.int a0)] [] (ij_SH, hi, hl, ij_HR) (fun n => rfl) (fun c1 => ?_) (fun c1 => ?_)
  · skip
    refine ij_br 5 ((hi 77 11) = 1) 16 20 [some (.ref 77), some (.int a0)] [.ref 77] (ij_SH, hi, hl, ij_HR) (fun n => rfl) (fun c2 => ?_) (fun c2 => ?_)
    · skip
      exact ij_ret 9 (some (.int (0))) (ij_SH, (ij_ui (ij_ui hi 77 17 1) 77 16 (hi 77 12)), hl, ij_HR) (fun n => rfl) (q0 c1 c2)
    · skip
      exact ij_ret 8 (some (.int (0))) (ij_SH, (ij_ui (ij_ui hi 77 17 a0) 77 16 (hi 77 12)), hl, ij_HR) (fun n => rfl) (q1 c1 c2)
  · skip
    exact ij_ret 2 (some (.int (0))) (ij_SH, hi, hl, ij_HR) (fun n => rfl) (q2 c1)
set_option maxRecDepth 10000 in
-- ScaleForgeModel.isIn(II)Z
theorem s101_77 {N : Nat} {xs : Nat → Int32} {hi : Nat → Nat → Int32} {hl : Nat → Nat → Int64} {Q : Option Value → ij_H → Prop} (a0 : Int32) (a1 : Int32) (q0 : (((a0 >>> (a1 &&& 31)) &&& 1) = 1) → Q (some (.int (1))) (ij_SH, hi, hl, ij_HR)) (q1 : ¬ (((a0 >>> (a1 &&& 31)) &&& 1) = 1) → Q (some (.int (0))) (ij_SH, hi, hl, ij_HR)) : ij_R (ij_xt N xs) 101 0 [some (.ref 77), some (.int a0), some (.int a1)] [] (ij_SH, hi, hl, ij_HR) Q := by
  refine ij_br 7 (((a0 >>> (a1 &&& 31)) &&& 1) = 1) 9 13 [some (.ref 77), some (.int a0), some (.int a1)] [] (ij_SH, hi, hl, ij_HR) (fun n => rfl) (fun c1 => ?_) (fun c1 => ?_)
  · skip
    exact ij_ret 3 (some (.int (1))) (ij_SH, hi, hl, ij_HR) (fun n => rfl) (q0 c1)
  · skip
    exact ij_ret 2 (some (.int (0))) (ij_SH, hi, hl, ij_HR) (fun n => rfl) (q1 c1)
set_option maxRecDepth 10000 in
-- ScaleForgeModel.isSign(I)Z
theorem s104_77 {N : Nat} {xs : Nat → Int32} {hi : Nat → Nat → Int32} {hl : Nat → Nat → Int64} {Q : Option Value → ij_H → Prop} (a0 : Int32) (q0 : ((hi 77 11) = 4) → ((hi 77 14) = a0) → Q (some (.int (1))) (ij_SH, hi, hl, ij_HR)) (q1 : ((hi 77 11) = 4) → ¬ ((hi 77 14) = a0) → Q (some (.int (0))) (ij_SH, hi, hl, ij_HR)) (q2 : ¬ ((hi 77 11) = 4) → Q (some (.int (0))) (ij_SH, hi, hl, ij_HR)) : ij_R (ij_xt N xs) 104 0 [some (.ref 77), some (.int a0)] [] (ij_SH, hi, hl, ij_HR) Q := by
  refine ij_br 4 ((hi 77 11) = 4) 8 20 [some (.ref 77), some (.int a0)] [] (ij_SH, hi, hl, ij_HR) (fun n => rfl) (fun c1 => ?_) (fun c1 => ?_)
  · skip
    refine ij_br 4 ((hi 77 14) = a0) 16 20 [some (.ref 77), some (.int a0)] [] (ij_SH, hi, hl, ij_HR) (fun n => rfl) (fun c2 => ?_) (fun c2 => ?_)
    · skip
      exact ij_ret 3 (some (.int (1))) (ij_SH, hi, hl, ij_HR) (fun n => rfl) (q0 c1 c2)
    · skip
      exact ij_ret 2 (some (.int (0))) (ij_SH, hi, hl, ij_HR) (fun n => rfl) (q1 c1 c2)
  · skip
    exact ij_ret 2 (some (.int (0))) (ij_SH, hi, hl, ij_HR) (fun n => rfl) (q2 c1)
set_option maxRecDepth 10000 in
-- ScaleForgeModel.leastOf(I)I
theorem s106 {N : Nat} {xs : Nat → Int32} {hi : Nat → Nat → Int32} {hl : Nat → Nat → Int64} {Q : Option Value → ij_H → Prop} (a0 : Int32) (q0 : (a0 = 1) → Q (some (.int (2))) (ij_SH, hi, hl, ij_HR)) (q1 : ¬ (a0 = 1) → (a0 = 3) → Q (some (.int (1))) (ij_SH, hi, hl, ij_HR)) (q2 : ¬ (a0 = 1) → ¬ (a0 = 3) → (a0 = 6) → Q (some (.int (1))) (ij_SH, hi, hl, ij_HR)) (q3 : ¬ (a0 = 1) → ¬ (a0 = 3) → ¬ (a0 = 6) → Q (some (.int (0))) (ij_SH, hi, hl, ij_HR)) : ij_R (ij_xt N xs) 106 0 [some (.int a0)] [] (ij_SH, hi, hl, ij_HR) Q := by
  refine ij_br 3 (a0 = 1) 5 9 [some (.int a0)] [] (ij_SH, hi, hl, ij_HR) (fun n => rfl) (fun c1 => ?_) (fun c1 => ?_)
  · skip
    exact ij_ret 3 (some (.int (2))) (ij_SH, hi, hl, ij_HR) (fun n => rfl) (q0 c1)
  · skip
    refine ij_br 3 (a0 = 3) 20 14 [some (.int a0)] [] (ij_SH, hi, hl, ij_HR) (fun n => rfl) (fun c2 => ?_) (fun c2 => ?_)
    · skip
      exact ij_ret 3 (some (.int (1))) (ij_SH, hi, hl, ij_HR) (fun n => rfl) (q1 c1 c2)
    · skip
      refine ij_br 3 (a0 = 6) 20 24 [some (.int a0)] [] (ij_SH, hi, hl, ij_HR) (fun n => rfl) (fun c3 => ?_) (fun c3 => ?_)
      · skip
        exact ij_ret 3 (some (.int (1))) (ij_SH, hi, hl, ij_HR) (fun n => rfl) (q2 c1 c2 c3)
      · skip
        exact ij_ret 2 (some (.int (0))) (ij_SH, hi, hl, ij_HR) (fun n => rfl) (q3 c1 c2 c3)
def f106 (a0 : Int32) (hi : Nat → Nat → Int32) (hl : Nat → Nat → Int64) : Int32 := if a0 = 1 then (2) else (if a0 = 3 then (1) else (if a0 = 6 then (1) else (0)))
theorem t106 {N : Nat} {xs : Nat → Int32} {hi : Nat → Nat → Int32} {hl : Nat → Nat → Int64} {Q : Option Value → ij_H → Prop} (a0 : Int32) (q : Q (some (.int (f106 a0 hi hl))) (ij_SH, hi, hl, ij_HR)) : ij_R (ij_xt N xs) 106 0 [some (.int a0)] [] (ij_SH, hi, hl, ij_HR) Q :=
  s106 a0 (fun k0 => by rw [f106, if_pos k0] at q; exact q) (fun k0 k1 => by rw [f106, if_neg k0, if_pos k1] at q; exact q) (fun k0 k1 k2 => by rw [f106, if_neg k0, if_neg k1, if_pos k2] at q; exact q) (fun k0 k1 k2 => by rw [f106, if_neg k0, if_neg k1, if_neg k2] at q; exact q)
set_option maxRecDepth 10000 in
-- ScaleForgeModel.mostOf(II)I
theorem s107 {N : Nat} {xs : Nat → Int32} {hi : Nat → Nat → Int32} {hl : Nat → Nat → Int64} {Q : Option Value → ij_H → Prop} (a0 : Int32) (a1 : Int32) (q0 : (a0 = 0) → Q (some (.int (16))) (ij_SH, hi, hl, ij_HR)) (q1 : ¬ (a0 = 0) → (a0 = 1) → Q (some (.int (60))) (ij_SH, hi, hl, ij_HR)) (q2 : ¬ (a0 = 0) → ¬ (a0 = 1) → (a0 = 2) → Q (some (.int ((a1 - 1)))) (ij_SH, hi, hl, ij_HR)) (q3 : ¬ (a0 = 0) → ¬ (a0 = 1) → ¬ (a0 = 2) → (a0 = 3) → Q (some (.int (24))) (ij_SH, hi, hl, ij_HR)) (q4 : ¬ (a0 = 0) → ¬ (a0 = 1) → ¬ (a0 = 2) → ¬ (a0 = 3) → (a0 = 4) → Q (some (.int (23))) (ij_SH, hi, hl, ij_HR)) (q5 : ¬ (a0 = 0) → ¬ (a0 = 1) → ¬ (a0 = 2) → ¬ (a0 = 3) → ¬ (a0 = 4) → (a0 = 5) → Q (some (.int ((a1 - 1)))) (ij_SH, hi, hl, ij_HR)) (q6 : ¬ (a0 = 0) → ¬ (a0 = 1) → ¬ (a0 = 2) → ¬ (a0 = 3) → ¬ (a0 = 4) → ¬ (a0 = 5) → (a0 = 6) → Q (some (.int (7))) (ij_SH, hi, hl, ij_HR)) (q7 : ¬ (a0 = 0) → ¬ (a0 = 1) → ¬ (a0 = 2) → ¬ (a0 = 3) → ¬ (a0 = 4) → ¬ (a0 = 5) → ¬ (a0 = 6) → Q (some (.int ((a1 - 1)))) (ij_SH, hi, hl, ij_HR)) : ij_R (ij_xt N xs) 107 0 [some (.int a0), some (.int a1)] [] (ij_SH, hi, hl, ij_HR) Q := by
  refine ij_go 1 1 [some (.int a0), some (.int a1)] [.int a0] (ij_SH, hi, hl, ij_HR) (fun n => rfl) ?_
  by_cases c1 : a0 = 0
  · skip
    refine ij_tsw (x := a0) (v := 0) rfl c1 (tgt := 44) rfl ?_
    exact ij_ret 2 (some (.int (16))) (ij_SH, hi, hl, ij_HR) (fun n => rfl) (q0 c1)
  by_cases c2 : a0 = 1
  · skip
    refine ij_tsw (x := a0) (v := 1) rfl c2 (tgt := 47) rfl ?_
    exact ij_ret 2 (some (.int (60))) (ij_SH, hi, hl, ij_HR) (fun n => rfl) (q1 c1 c2)
  by_cases c3 : a0 = 2
  · skip
    refine ij_tsw (x := a0) (v := 2) rfl c3 (tgt := 59) rfl ?_
    exact ij_ret 4 (some (.int ((a1 - 1)))) (ij_SH, hi, hl, ij_HR) (fun n => rfl) (q2 c1 c2 c3)
  by_cases c4 : a0 = 3
  · skip
    refine ij_tsw (x := a0) (v := 3) rfl c4 (tgt := 50) rfl ?_
    exact ij_ret 2 (some (.int (24))) (ij_SH, hi, hl, ij_HR) (fun n => rfl) (q3 c1 c2 c3 c4)
  by_cases c5 : a0 = 4
  · skip
    refine ij_tsw (x := a0) (v := 4) rfl c5 (tgt := 53) rfl ?_
    exact ij_ret 2 (some (.int (23))) (ij_SH, hi, hl, ij_HR) (fun n => rfl) (q4 c1 c2 c3 c4 c5)
  by_cases c6 : a0 = 5
  · skip
    refine ij_tsw (x := a0) (v := 5) rfl c6 (tgt := 59) rfl ?_
    exact ij_ret 4 (some (.int ((a1 - 1)))) (ij_SH, hi, hl, ij_HR) (fun n => rfl) (q5 c1 c2 c3 c4 c5 c6)
  by_cases c7 : a0 = 6
  · skip
    refine ij_tsw (x := a0) (v := 6) rfl c7 (tgt := 56) rfl ?_
    exact ij_ret 2 (some (.int (7))) (ij_SH, hi, hl, ij_HR) (fun n => rfl) (q6 c1 c2 c3 c4 c5 c6 c7)
  refine ij_tsd7 (x := a0) rfl c1 c2 c3 c4 c5 c6 c7 (tgt := 59) rfl rfl rfl rfl rfl rfl rfl rfl rfl ?_
  exact ij_ret 4 (some (.int ((a1 - 1)))) (ij_SH, hi, hl, ij_HR) (fun n => rfl) (q7 c1 c2 c3 c4 c5 c6 c7)
def f107 (a0 : Int32) (a1 : Int32) (hi : Nat → Nat → Int32) (hl : Nat → Nat → Int64) : Int32 := if a0 = 0 then (16) else (if a0 = 1 then (60) else (if a0 = 2 then ((a1 - 1)) else (if a0 = 3 then (24) else (if a0 = 4 then (23) else (if a0 = 5 then ((a1 - 1)) else (if a0 = 6 then (7) else ((a1 - 1))))))))
theorem t107 {N : Nat} {xs : Nat → Int32} {hi : Nat → Nat → Int32} {hl : Nat → Nat → Int64} {Q : Option Value → ij_H → Prop} (a0 : Int32) (a1 : Int32) (q : Q (some (.int (f107 a0 a1 hi hl))) (ij_SH, hi, hl, ij_HR)) : ij_R (ij_xt N xs) 107 0 [some (.int a0), some (.int a1)] [] (ij_SH, hi, hl, ij_HR) Q :=
  s107 a0 a1 (fun k0 => by rw [f107, if_pos k0] at q; exact q) (fun k0 k1 => by rw [f107, if_neg k0, if_pos k1] at q; exact q) (fun k0 k1 k2 => by rw [f107, if_neg k0, if_neg k1, if_pos k2] at q; exact q) (fun k0 k1 k2 k3 => by rw [f107, if_neg k0, if_neg k1, if_neg k2, if_pos k3] at q; exact q) (fun k0 k1 k2 k3 k4 => by rw [f107, if_neg k0, if_neg k1, if_neg k2, if_neg k3, if_pos k4] at q; exact q) (fun k0 k1 k2 k3 k4 k5 => by rw [f107, if_neg k0, if_neg k1, if_neg k2, if_neg k3, if_neg k4, if_pos k5] at q; exact q) (fun k0 k1 k2 k3 k4 k5 k6 => by rw [f107, if_neg k0, if_neg k1, if_neg k2, if_neg k3, if_neg k4, if_neg k5, if_pos k6] at q; exact q) (fun k0 k1 k2 k3 k4 k5 k6 => by rw [f107, if_neg k0, if_neg k1, if_neg k2, if_neg k3, if_neg k4, if_neg k5, if_neg k6] at q; exact q)
set_option maxRecDepth 10000 in
-- ScaleForgeModel.isFolded(I)Z
theorem s109 {N : Nat} {xs : Nat → Int32} {hi : Nat → Nat → Int32} {hl : Nat → Nat → Int64} {Q : Option Value → ij_H → Prop} (a0 : Int32) (q0 : (a0 = 2) → Q (some (.int (1))) (ij_SH, hi, hl, ij_HR)) (q1 : ¬ (a0 = 2) → (a0 = 5) → Q (some (.int (1))) (ij_SH, hi, hl, ij_HR)) (q2 : ¬ (a0 = 2) → ¬ (a0 = 5) → (a0 = 7) → Q (some (.int (1))) (ij_SH, hi, hl, ij_HR)) (q3 : ¬ (a0 = 2) → ¬ (a0 = 5) → ¬ (a0 = 7) → (a0 = 8) → Q (some (.int (1))) (ij_SH, hi, hl, ij_HR)) (q4 : ¬ (a0 = 2) → ¬ (a0 = 5) → ¬ (a0 = 7) → ¬ (a0 = 8) → Q (some (.int (0))) (ij_SH, hi, hl, ij_HR)) : ij_R (ij_xt N xs) 109 0 [some (.int a0)] [] (ij_SH, hi, hl, ij_HR) Q := by
  refine ij_br 3 (a0 = 2) 22 5 [some (.int a0)] [] (ij_SH, hi, hl, ij_HR) (fun n => rfl) (fun c1 => ?_) (fun c1 => ?_)
  · skip
    exact ij_ret 3 (some (.int (1))) (ij_SH, hi, hl, ij_HR) (fun n => rfl) (q0 c1)
  · skip
    refine ij_br 3 (a0 = 5) 22 10 [some (.int a0)] [] (ij_SH, hi, hl, ij_HR) (fun n => rfl) (fun c2 => ?_) (fun c2 => ?_)
    · skip
      exact ij_ret 3 (some (.int (1))) (ij_SH, hi, hl, ij_HR) (fun n => rfl) (q1 c1 c2)
    · skip
      refine ij_br 3 (a0 = 7) 22 16 [some (.int a0)] [] (ij_SH, hi, hl, ij_HR) (fun n => rfl) (fun c3 => ?_) (fun c3 => ?_)
      · skip
        exact ij_ret 3 (some (.int (1))) (ij_SH, hi, hl, ij_HR) (fun n => rfl) (q2 c1 c2 c3)
      · skip
        refine ij_br 3 (a0 = 8) 22 26 [some (.int a0)] [] (ij_SH, hi, hl, ij_HR) (fun n => rfl) (fun c4 => ?_) (fun c4 => ?_)
        · skip
          exact ij_ret 3 (some (.int (1))) (ij_SH, hi, hl, ij_HR) (fun n => rfl) (q3 c1 c2 c3 c4)
        · skip
          exact ij_ret 2 (some (.int (0))) (ij_SH, hi, hl, ij_HR) (fun n => rfl) (q4 c1 c2 c3 c4)
set_option maxRecDepth 10000 in
-- ScaleForgeModel.folded(II)I
theorem s111 {N : Nat} {xs : Nat → Int32} {hi : Nat → Nat → Int32} {hl : Nat → Nat → Int64} {Q : Option Value → ij_H → Prop} (a0 : Int32) (a1 : Int32) (b0 : ¬ (a1 = 0)) (q0 : ((0 : Int32) ≤ (a0 - a0 / a1 * a1)) → Q (some (.int ((a0 - a0 / a1 * a1)))) (ij_SH, hi, hl, ij_HR)) (q1 : ¬ ((0 : Int32) ≤ (a0 - a0 / a1 * a1)) → Q (some (.int (((a0 - a0 / a1 * a1) + a1)))) (ij_SH, hi, hl, ij_HR)) : ij_R (ij_xt N xs) 111 0 [some (.int a0), some (.int a1), none] [] (ij_SH, hi, hl, ij_HR) Q := by
  refine ij_go 2 2 [some (.int a0), some (.int a1), none] [.int a1, .int a0] (ij_SH, hi, hl, ij_HR) (fun n => rfl) ?_
  refine ij_irem rfl (b0) ?_
  refine ij_br 3 ((0 : Int32) ≤ (a0 - a0 / a1 * a1)) 14 8 [some (.int a0), some (.int a1), some (.int ((a0 - a0 / a1 * a1)))] [] (ij_SH, hi, hl, ij_HR) (fun n => rfl) (fun c1 => ?_) (fun c1 => ?_)
  · skip
    exact ij_ret 2 (some (.int ((a0 - a0 / a1 * a1)))) (ij_SH, hi, hl, ij_HR) (fun n => rfl) (q0 c1)
  · skip
    exact ij_ret 5 (some (.int (((a0 - a0 / a1 * a1) + a1)))) (ij_SH, hi, hl, ij_HR) (fun n => rfl) (q1 c1)
def f111 (a0 : Int32) (a1 : Int32) (hi : Nat → Nat → Int32) (hl : Nat → Nat → Int64) : Int32 := if (0 : Int32) ≤ (a0 - a0 / a1 * a1) then ((a0 - a0 / a1 * a1)) else (((a0 - a0 / a1 * a1) + a1))
theorem t111 {N : Nat} {xs : Nat → Int32} {hi : Nat → Nat → Int32} {hl : Nat → Nat → Int64} {Q : Option Value → ij_H → Prop} (a0 : Int32) (a1 : Int32) (b0 : ¬ (a1 = 0)) (q : Q (some (.int (f111 a0 a1 hi hl))) (ij_SH, hi, hl, ij_HR)) : ij_R (ij_xt N xs) 111 0 [some (.int a0), some (.int a1), none] [] (ij_SH, hi, hl, ij_HR) Q :=
  s111 a0 a1 b0 (fun k0 => by rw [f111, if_pos k0] at q; exact q) (fun k0 => by rw [f111, if_neg k0] at q; exact q)
set_option maxRecDepth 10000 in
-- ScaleForgeModel.chainBy(II)I
theorem s112_77 {N : Nat} {xs : Nat → Int32} {hi : Nat → Nat → Int32} {hl : Nat → Nat → Int64} {Q : Option Value → ij_H → Prop} (a0 : Int32) (a1 : Int32) (b0 : ¬ ((hi 78 1) = 0)) (q0 : Q (some (.int ((f111 ((hi 78 5) + ((a0 - (hi 78 4)) * a1)) (hi 78 1) hi hl)))) (ij_SH, hi, hl, ij_HR)) : ij_R (ij_xt N xs) 112 0 [some (.ref 77), some (.int a0), some (.int a1)] [] (ij_SH, hi, hl, ij_HR) Q := by
  refine ij_call 18 111 [some (.int (((hi 78 5) + ((a0 - (hi 78 4)) * a1)))), some (.int ((hi 78 1))), none] [] 26 [some (.ref 77), some (.int a0), some (.int a1)] (ij_SH, hi, hl, ij_HR) (fun n => rfl) (t111 ((hi 78 5) + ((a0 - (hi 78 4)) * a1)) (hi 78 1) (b0) ?_)
  -- back
  exact ij_ret 1 (some (.int ((f111 ((hi 78 5) + ((a0 - (hi 78 4)) * a1)) (hi 78 1) hi hl)))) (ij_SH, hi, hl, ij_HR) (fun n => rfl) (q0)
set_option maxRecDepth 10000 in
-- ScaleForgeModel.gives(I)I
theorem s115_77 {N : Nat} {xs : Nat → Int32} {hi : Nat → Nat → Int32} {hl : Nat → Nat → Int64} {Q : Option Value → ij_H → Prop} (a0 : Int32) (q0 : Q (some (.int a0)) (ij_SH, (ij_ui hi 77 1 0), hl, ij_HR)) : ij_R (ij_xt N xs) 115 0 [some (.ref 77), some (.int a0)] [] (ij_SH, hi, hl, ij_HR) Q := by
  exact ij_ret 5 (some (.int a0)) (ij_SH, (ij_ui hi 77 1 0), hl, ij_HR) (fun n => rfl) (q0)
set_option maxRecDepth 10000 in
-- ScaleForgeModel.taken(I)I
theorem s116_77 {N : Nat} {xs : Nat → Int32} {hi : Nat → Nat → Int32} {hl : Nat → Nat → Int64} {Q : Option Value → ij_H → Prop} (a0 : Int32) (q0 : ((hi 77 17) ≤ 0) → Q (some (.int a0)) (ij_SH, (ij_ui (ij_ui hi 77 15 (hi 77 17)) 77 1 0), hl, ij_HR)) (q1 : ¬ ((hi 77 17) ≤ 0) → Q (some (.int ((-1)))) (ij_SH, (ij_ui (ij_ui hi 77 15 (hi 77 17)) 77 1 9), hl, ij_HR)) : ij_R (ij_xt N xs) 116 0 [some (.ref 77), some (.int a0)] [] (ij_SH, hi, hl, ij_HR) Q := by
  refine ij_br 7 ((hi 77 17) ≤ 0) 24 15 [some (.ref 77), some (.int a0)] [] (ij_SH, (ij_ui hi 77 15 (hi 77 17)), hl, ij_HR) (fun n => rfl) (fun c1 => ?_) (fun c1 => ?_)
  · skip
    refine ij_call 3 115 [some (.ref 77), some (.int a0)] [] 29 [some (.ref 77), some (.int a0)] (ij_SH, (ij_ui hi 77 15 (hi 77 17)), hl, ij_HR) (fun n => rfl) (s115_77 a0 ?_)
    -- back
    exact ij_ret 1 (some (.int a0)) (ij_SH, (ij_ui (ij_ui hi 77 15 (hi 77 17)) 77 1 0), hl, ij_HR) (fun n => rfl) (q0 c1)
  · skip
    refine ij_call 3 98 [some (.ref 77), some (.int (9))] [] 21 [some (.ref 77), some (.int a0)] (ij_SH, (ij_ui hi 77 15 (hi 77 17)), hl, ij_HR) (fun n => rfl) (s98_77 9 ?_)
    -- back
    exact ij_ret 2 (some (.int ((-1)))) (ij_SH, (ij_ui (ij_ui hi 77 15 (hi 77 17)) 77 1 9), hl, ij_HR) (fun n => rfl) (q1 c1)
set_option maxRecDepth 10000 in
-- ScaleForge$Studies.hasStep(I)Z
theorem s118_26 {N : Nat} {xs : Nat → Int32} {hi : Nat → Nat → Int32} {hl : Nat → Nat → Int64} {Q : Option Value → ij_H → Prop} (a0 : Int32) (q0 : (a0 < 0) → Q (some (.int (0))) (ij_SH, hi, hl, ij_HR)) (q1 : ¬ (a0 < 0) → ((hi 26 4) ≤ a0) → Q (some (.int (0))) (ij_SH, hi, hl, ij_HR)) (q2 : ¬ (a0 < 0) → ¬ ((hi 26 4) ≤ a0) → (30 ≤ a0) → Q (some (.int (0))) (ij_SH, hi, hl, ij_HR)) (q3 : ¬ (a0 < 0) → ¬ ((hi 26 4) ≤ a0) → ¬ (30 ≤ a0) → Q (some (.int (1))) (ij_SH, hi, hl, ij_HR)) : ij_R (ij_xt N xs) 118 0 [some (.ref 26), some (.int a0)] [] (ij_SH, hi, hl, ij_HR) Q := by
  refine ij_br 2 (a0 < 0) 22 4 [some (.ref 26), some (.int a0)] [] (ij_SH, hi, hl, ij_HR) (fun n => rfl) (fun c1 => ?_) (fun c1 => ?_)
  · skip
    exact ij_ret 2 (some (.int (0))) (ij_SH, hi, hl, ij_HR) (fun n => rfl) (q0 c1)
  · skip
    refine ij_br 4 ((hi 26 4) ≤ a0) 22 12 [some (.ref 26), some (.int a0)] [] (ij_SH, hi, hl, ij_HR) (fun n => rfl) (fun c2 => ?_) (fun c2 => ?_)
    · skip
      exact ij_ret 2 (some (.int (0))) (ij_SH, hi, hl, ij_HR) (fun n => rfl) (q1 c1 c2)
    · skip
      refine ij_br 3 (30 ≤ a0) 22 18 [some (.ref 26), some (.int a0)] [] (ij_SH, hi, hl, ij_HR) (fun n => rfl) (fun c3 => ?_) (fun c3 => ?_)
      · skip
        exact ij_ret 2 (some (.int (0))) (ij_SH, hi, hl, ij_HR) (fun n => rfl) (q2 c1 c2 c3)
      · skip
        exact ij_ret 3 (some (.int (1))) (ij_SH, hi, hl, ij_HR) (fun n => rfl) (q3 c1 c2 c3)
set_option maxRecDepth 10000 in
-- ScaleForge$Studies.hasStep(I)Z
theorem s118_17 {N : Nat} {xs : Nat → Int32} {hi : Nat → Nat → Int32} {hl : Nat → Nat → Int64} {Q : Option Value → ij_H → Prop} (a0 : Int32) (q0 : (a0 < 0) → Q (some (.int (0))) (ij_SH, hi, hl, ij_HR)) (q1 : ¬ (a0 < 0) → ((hi 17 4) ≤ a0) → Q (some (.int (0))) (ij_SH, hi, hl, ij_HR)) (q2 : ¬ (a0 < 0) → ¬ ((hi 17 4) ≤ a0) → (30 ≤ a0) → Q (some (.int (0))) (ij_SH, hi, hl, ij_HR)) (q3 : ¬ (a0 < 0) → ¬ ((hi 17 4) ≤ a0) → ¬ (30 ≤ a0) → Q (some (.int (1))) (ij_SH, hi, hl, ij_HR)) : ij_R (ij_xt N xs) 118 0 [some (.ref 17), some (.int a0)] [] (ij_SH, hi, hl, ij_HR) Q := by
  refine ij_br 2 (a0 < 0) 22 4 [some (.ref 17), some (.int a0)] [] (ij_SH, hi, hl, ij_HR) (fun n => rfl) (fun c1 => ?_) (fun c1 => ?_)
  · skip
    exact ij_ret 2 (some (.int (0))) (ij_SH, hi, hl, ij_HR) (fun n => rfl) (q0 c1)
  · skip
    refine ij_br 4 ((hi 17 4) ≤ a0) 22 12 [some (.ref 17), some (.int a0)] [] (ij_SH, hi, hl, ij_HR) (fun n => rfl) (fun c2 => ?_) (fun c2 => ?_)
    · skip
      exact ij_ret 2 (some (.int (0))) (ij_SH, hi, hl, ij_HR) (fun n => rfl) (q1 c1 c2)
    · skip
      refine ij_br 3 (30 ≤ a0) 22 18 [some (.ref 17), some (.int a0)] [] (ij_SH, hi, hl, ij_HR) (fun n => rfl) (fun c3 => ?_) (fun c3 => ?_)
      · skip
        exact ij_ret 2 (some (.int (0))) (ij_SH, hi, hl, ij_HR) (fun n => rfl) (q2 c1 c2 c3)
      · skip
        exact ij_ret 3 (some (.int (1))) (ij_SH, hi, hl, ij_HR) (fun n => rfl) (q3 c1 c2 c3)
set_option maxRecDepth 10000 in
-- ScaleForge$StudyText.comparesNow()I
theorem s121_16 {N : Nat} {xs : Nat → Int32} {hi : Nat → Nat → Int32} {hl : Nat → Nat → Int64} {Q : Option Value → ij_H → Prop} (q0 : ((hi 10 4) = 3) → ((hi 10 6) = 60) → Q (some (.int (2))) (ij_SH, hi, hl, ij_HR)) (q1 : ((hi 10 4) = 3) → ¬ ((hi 10 6) = 60) → ((hi 10 6) = 62) → Q (some (.int (3))) (ij_SH, hi, hl, ij_HR)) (q2 : ((hi 10 4) = 3) → ¬ ((hi 10 6) = 60) → ¬ ((hi 10 6) = 62) → ((hi 10 6) = 61) → Q (some (.int (4))) (ij_SH, hi, hl, ij_HR)) (q3 : ((hi 10 4) = 3) → ¬ ((hi 10 6) = 60) → ¬ ((hi 10 6) = 62) → ¬ ((hi 10 6) = 61) → Q (some (.int ((-1)))) (ij_SH, hi, hl, ij_HR)) (q4 : ¬ ((hi 10 4) = 3) → Q (some (.int ((-1)))) (ij_SH, hi, hl, ij_HR)) : ij_R (ij_xt N xs) 121 0 [some (.ref 16)] [] (ij_SH, hi, hl, ij_HR) Q := by
  refine ij_call 4 76 [some (.ref 10), some (.int (60))] [] 9 [some (.ref 16)] (ij_SH, hi, hl, ij_HR) (fun n => rfl) (s76_10 60 (fun c1 c2 => ?_) (fun c3 c4 => ?_) (fun c5 => ?_))
  · skip
    exact ij_ret 3 (some (.int (2))) (ij_SH, hi, hl, ij_HR) (fun n => rfl) (q0 c1 c2)
  · skip
    refine ij_call 5 76 [some (.ref 10), some (.int (62))] [] 23 [some (.ref 16)] (ij_SH, hi, hl, ij_HR) (fun n => rfl) (s76_10 62 (fun c6 c7 => ?_) (fun c8 c9 => ?_) (fun c10 => ?_))
    · skip
      exact ij_ret 3 (some (.int (3))) (ij_SH, hi, hl, ij_HR) (fun n => rfl) (q1 c3 c4 c7)
    · skip
      refine ij_call 5 76 [some (.ref 10), some (.int (61))] [] 37 [some (.ref 16)] (ij_SH, hi, hl, ij_HR) (fun n => rfl) (s76_10 61 (fun c11 c12 => ?_) (fun c13 c14 => ?_) (fun c15 => ?_))
      · skip
        exact ij_ret 4 (some (.int (4))) (ij_SH, hi, hl, ij_HR) (fun n => rfl) (q2 c3 c4 c9 c12)
      · skip
        exact ij_ret 3 (some (.int ((-1)))) (ij_SH, hi, hl, ij_HR) (fun n => rfl) (q3 c3 c4 c9 c14)
      · skip
        exact absurd c3 c15
    · skip
      exact absurd c3 c10
  · skip
    refine ij_call 5 76 [some (.ref 10), some (.int (62))] [] 23 [some (.ref 16)] (ij_SH, hi, hl, ij_HR) (fun n => rfl) (s76_10 62 (fun c16 c17 => ?_) (fun c18 c19 => ?_) (fun c20 => ?_))
    · skip
      exact absurd c16 c5
    · skip
      exact absurd c18 c5
    · skip
      refine ij_call 5 76 [some (.ref 10), some (.int (61))] [] 37 [some (.ref 16)] (ij_SH, hi, hl, ij_HR) (fun n => rfl) (s76_10 61 (fun c21 c22 => ?_) (fun c23 c24 => ?_) (fun c25 => ?_))
      · skip
        exact absurd c21 c5
      · skip
        exact absurd c23 c5
      · skip
        exact ij_ret 3 (some (.int ((-1)))) (ij_SH, hi, hl, ij_HR) (fun n => rfl) (q4 c5)
def f121_16 (hi : Nat → Nat → Int32) (hl : Nat → Nat → Int64) : Int32 := if (hi 10 4) = 3 then (if (hi 10 6) = 60 then (2) else (if (hi 10 6) = 62 then (3) else (if (hi 10 6) = 61 then (4) else ((-1))))) else ((-1))
theorem t121_16 {N : Nat} {xs : Nat → Int32} {hi : Nat → Nat → Int32} {hl : Nat → Nat → Int64} {Q : Option Value → ij_H → Prop} (q : Q (some (.int (f121_16 hi hl))) (ij_SH, hi, hl, ij_HR)) : ij_R (ij_xt N xs) 121 0 [some (.ref 16)] [] (ij_SH, hi, hl, ij_HR) Q :=
  s121_16 (fun k0 k1 => by rw [f121_16, if_pos k0, if_pos k1] at q; exact q) (fun k0 k1 k2 => by rw [f121_16, if_pos k0, if_neg k1, if_pos k2] at q; exact q) (fun k0 k1 k2 k3 => by rw [f121_16, if_pos k0, if_neg k1, if_neg k2, if_pos k3] at q; exact q) (fun k0 k1 k2 k3 => by rw [f121_16, if_pos k0, if_neg k1, if_neg k2, if_neg k3] at q; exact q) (fun k0 => by rw [f121_16, if_neg k0] at q; exact q)
set_option maxRecDepth 10000 in
-- ScaleForge$StudyText.mostNumber(II)I
theorem s124 {N : Nat} {xs : Nat → Int32} {hi : Nat → Nat → Int32} {hl : Nat → Nat → Int64} {Q : Option Value → ij_H → Prop} (a0 : Int32) (a1 : Int32) (q0 : (a0 = 6) → Q (some (.int (99))) (ij_SH, hi, hl, ij_HR)) (q1 : ¬ (a0 = 6) → (a1 < 2) → Q (some (.int (59))) (ij_SH, hi, hl, ij_HR)) (q2 : ¬ (a0 = 6) → ¬ (a1 < 2) → Q (some (.int (60))) (ij_SH, hi, hl, ij_HR)) : ij_R (ij_xt N xs) 124 0 [some (.int a0), some (.int a1)] [] (ij_SH, hi, hl, ij_HR) Q := by
  refine ij_br 3 (a0 = 6) 6 9 [some (.int a0), some (.int a1)] [] (ij_SH, hi, hl, ij_HR) (fun n => rfl) (fun c1 => ?_) (fun c1 => ?_)
  · skip
    exact ij_ret 2 (some (.int (99))) (ij_SH, hi, hl, ij_HR) (fun n => rfl) (q0 c1)
  · skip
    refine ij_br 3 (a1 < 2) 19 14 [some (.int a0), some (.int a1)] [] (ij_SH, hi, hl, ij_HR) (fun n => rfl) (fun c2 => ?_) (fun c2 => ?_)
    · skip
      exact ij_ret 2 (some (.int (59))) (ij_SH, hi, hl, ij_HR) (fun n => rfl) (q1 c1 c2)
    · skip
      exact ij_ret 3 (some (.int (60))) (ij_SH, hi, hl, ij_HR) (fun n => rfl) (q2 c1 c2)
def f124 (a0 : Int32) (a1 : Int32) (hi : Nat → Nat → Int32) (hl : Nat → Nat → Int64) : Int32 := if a0 = 6 then (99) else (if a1 < 2 then (59) else (60))
theorem t124 {N : Nat} {xs : Nat → Int32} {hi : Nat → Nat → Int32} {hl : Nat → Nat → Int64} {Q : Option Value → ij_H → Prop} (a0 : Int32) (a1 : Int32) (q : Q (some (.int (f124 a0 a1 hi hl))) (ij_SH, hi, hl, ij_HR)) : ij_R (ij_xt N xs) 124 0 [some (.int a0), some (.int a1)] [] (ij_SH, hi, hl, ij_HR) Q :=
  s124 a0 a1 (fun k0 => by rw [f124, if_pos k0] at q; exact q) (fun k0 k1 => by rw [f124, if_neg k0, if_pos k1] at q; exact q) (fun k0 k1 => by rw [f124, if_neg k0, if_neg k1] at q; exact q)
set_option maxRecDepth 10000 in
-- ScaleForge.fault(I)I
theorem s133_0 {N : Nat} {xs : Nat → Int32} {hi : Nat → Nat → Int32} {hl : Nat → Nat → Int64} {Q : Option Value → ij_H → Prop} (a0 : Int32) (q0 : (a0 = 0) → Q (some (.int ((hi 10 7)))) (ij_SH, hi, hl, ij_HR)) (q1 : ¬ (a0 = 0) → (a0 = 1) → Q (some (.int ((hi 10 8)))) (ij_SH, hi, hl, ij_HR)) (q2 : ¬ (a0 = 0) → ¬ (a0 = 1) → Q (some (.int ((-1)))) (ij_SH, hi, hl, ij_HR)) : ij_R (ij_xt N xs) 133 0 [some (.ref 0), some (.int a0)] [] (ij_SH, hi, hl, ij_HR) Q := by
  refine ij_br 2 (a0 = 0) 4 12 [some (.ref 0), some (.int a0)] [] (ij_SH, hi, hl, ij_HR) (fun n => rfl) (fun c1 => ?_) (fun c1 => ?_)
  · skip
    exact ij_ret 4 (some (.int ((hi 10 7)))) (ij_SH, hi, hl, ij_HR) (fun n => rfl) (q0 c1)
  · skip
    refine ij_br 3 (a0 = 1) 17 27 [some (.ref 0), some (.int a0)] [] (ij_SH, hi, hl, ij_HR) (fun n => rfl) (fun c2 => ?_) (fun c2 => ?_)
    · skip
      exact ij_ret 5 (some (.int ((hi 10 8)))) (ij_SH, hi, hl, ij_HR) (fun n => rfl) (q1 c1 c2)
    · skip
      exact ij_ret 2 (some (.int ((-1)))) (ij_SH, hi, hl, ij_HR) (fun n => rfl) (q2 c1 c2)
def f133_0 (a0 : Int32) (hi : Nat → Nat → Int32) (hl : Nat → Nat → Int64) : Int32 := if a0 = 0 then ((hi 10 7)) else (if a0 = 1 then ((hi 10 8)) else ((-1)))
theorem t133_0 {N : Nat} {xs : Nat → Int32} {hi : Nat → Nat → Int32} {hl : Nat → Nat → Int64} {Q : Option Value → ij_H → Prop} (a0 : Int32) (q : Q (some (.int (f133_0 a0 hi hl))) (ij_SH, hi, hl, ij_HR)) : ij_R (ij_xt N xs) 133 0 [some (.ref 0), some (.int a0)] [] (ij_SH, hi, hl, ij_HR) Q :=
  s133_0 a0 (fun k0 => by rw [f133_0, if_pos k0] at q; exact q) (fun k0 k1 => by rw [f133_0, if_neg k0, if_pos k1] at q; exact q) (fun k0 k1 => by rw [f133_0, if_neg k0, if_neg k1] at q; exact q)
set_option maxRecDepth 10000 in
-- ScaleForgeModel.fault(I)I
theorem s134_77 {N : Nat} {xs : Nat → Int32} {hi : Nat → Nat → Int32} {hl : Nat → Nat → Int64} {Q : Option Value → ij_H → Prop} (a0 : Int32) (q0 : (a0 = 0) → Q (some (.int ((hi 77 15)))) (ij_SH, hi, hl, ij_HR)) (q1 : ¬ (a0 = 0) → (a0 = 1) → Q (some (.int ((hi 77 16)))) (ij_SH, hi, hl, ij_HR)) (q2 : ¬ (a0 = 0) → ¬ (a0 = 1) → Q (some (.int ((-1)))) (ij_SH, hi, hl, ij_HR)) : ij_R (ij_xt N xs) 134 0 [some (.ref 77), some (.int a0)] [] (ij_SH, hi, hl, ij_HR) Q := by
  refine ij_br 2 (a0 = 0) 4 11 [some (.ref 77), some (.int a0)] [] (ij_SH, hi, hl, ij_HR) (fun n => rfl) (fun c1 => ?_) (fun c1 => ?_)
  · skip
    exact ij_ret 4 (some (.int ((hi 77 15)))) (ij_SH, hi, hl, ij_HR) (fun n => rfl) (q0 c1)
  · skip
    refine ij_br 3 (a0 = 1) 16 23 [some (.ref 77), some (.int a0)] [] (ij_SH, hi, hl, ij_HR) (fun n => rfl) (fun c2 => ?_) (fun c2 => ?_)
    · skip
      exact ij_ret 4 (some (.int ((hi 77 16)))) (ij_SH, hi, hl, ij_HR) (fun n => rfl) (q1 c1 c2)
    · skip
      exact ij_ret 2 (some (.int ((-1)))) (ij_SH, hi, hl, ij_HR) (fun n => rfl) (q2 c1 c2)
def f134_77 (a0 : Int32) (hi : Nat → Nat → Int32) (hl : Nat → Nat → Int64) : Int32 := if a0 = 0 then ((hi 77 15)) else (if a0 = 1 then ((hi 77 16)) else ((-1)))
theorem t134_77 {N : Nat} {xs : Nat → Int32} {hi : Nat → Nat → Int32} {hl : Nat → Nat → Int64} {Q : Option Value → ij_H → Prop} (a0 : Int32) (q : Q (some (.int (f134_77 a0 hi hl))) (ij_SH, hi, hl, ij_HR)) : ij_R (ij_xt N xs) 134 0 [some (.ref 77), some (.int a0)] [] (ij_SH, hi, hl, ij_HR) Q :=
  s134_77 a0 (fun k0 => by rw [f134_77, if_pos k0] at q; exact q) (fun k0 k1 => by rw [f134_77, if_neg k0, if_pos k1] at q; exact q) (fun k0 k1 => by rw [f134_77, if_neg k0, if_neg k1] at q; exact q)
set_option maxRecDepth 10000 in
-- ScaleForge$Scale.part(I)I
theorem s135_23 {N : Nat} {xs : Nat → Int32} {hi : Nat → Nat → Int32} {hl : Nat → Nat → Int64} {Q : Option Value → ij_H → Prop} (a0 : Int32) (q0 : (a0 < 0) → Q (some (.int (0))) (ij_SH, hi, hl, ij_HR)) (q1 : ¬ (a0 < 0) → (9 ≤ a0) → Q (some (.int (0))) (ij_SH, hi, hl, ij_HR)) (q2 : ¬ (a0 < 0) → ¬ (9 ≤ a0) → Q (some (.int ((hi 24 (a0).toNatClampNeg)))) (ij_SH, hi, hl, ij_HR)) : ij_R (ij_xt N xs) 135 0 [some (.ref 23), some (.int a0)] [] (ij_SH, hi, hl, ij_HR) Q := by
  refine ij_br 2 (a0 < 0) 22 4 [some (.ref 23), some (.int a0)] [] (ij_SH, hi, hl, ij_HR) (fun n => rfl) (fun c1 => ?_) (fun c1 => ?_)
  · skip
    exact ij_ret 2 (some (.int (0))) (ij_SH, hi, hl, ij_HR) (fun n => rfl) (q0 c1)
  · skip
    refine ij_br 5 (9 ≤ a0) 22 13 [some (.ref 23), some (.int a0)] [] (ij_SH, hi, hl, ij_HR) (fun n => rfl) (fun c2 => ?_) (fun c2 => ?_)
    · skip
      exact ij_ret 2 (some (.int (0))) (ij_SH, hi, hl, ij_HR) (fun n => rfl) (q1 c1 c2)
    · skip
      refine ij_go 3 18 [some (.ref 23), some (.int a0)] [.int a0, .ref 24] (ij_SH, hi, hl, ij_HR) (fun n => rfl) ?_
      refine ij_ial rfl rfl rfl (ij_bd c1 (Int32.not_le.mp c2) (by decide)) ?_
      exact ij_ret 2 (some (.int ((hi 24 (a0).toNatClampNeg)))) (ij_SH, hi, hl, ij_HR) (fun n => rfl) (q2 c1 c2)
def f135_23 (a0 : Int32) (hi : Nat → Nat → Int32) (hl : Nat → Nat → Int64) : Int32 := if a0 < 0 then (0) else (if 9 ≤ a0 then (0) else ((hi 24 (a0).toNatClampNeg)))
theorem t135_23 {N : Nat} {xs : Nat → Int32} {hi : Nat → Nat → Int32} {hl : Nat → Nat → Int64} {Q : Option Value → ij_H → Prop} (a0 : Int32) (q : Q (some (.int (f135_23 a0 hi hl))) (ij_SH, hi, hl, ij_HR)) : ij_R (ij_xt N xs) 135 0 [some (.ref 23), some (.int a0)] [] (ij_SH, hi, hl, ij_HR) Q :=
  s135_23 a0 (fun k0 => by rw [f135_23, if_pos k0] at q; exact q) (fun k0 k1 => by rw [f135_23, if_neg k0, if_pos k1] at q; exact q) (fun k0 k1 => by rw [f135_23, if_neg k0, if_neg k1] at q; exact q)
set_option maxRecDepth 10000 in
-- ScaleForge$Scale.part(I)I
theorem s135_44 {N : Nat} {xs : Nat → Int32} {hi : Nat → Nat → Int32} {hl : Nat → Nat → Int64} {Q : Option Value → ij_H → Prop} (a0 : Int32) (q0 : (a0 < 0) → Q (some (.int (0))) (ij_SH, hi, hl, ij_HR)) (q1 : ¬ (a0 < 0) → (9 ≤ a0) → Q (some (.int (0))) (ij_SH, hi, hl, ij_HR)) (q2 : ¬ (a0 < 0) → ¬ (9 ≤ a0) → Q (some (.int ((hi 45 (a0).toNatClampNeg)))) (ij_SH, hi, hl, ij_HR)) : ij_R (ij_xt N xs) 135 0 [some (.ref 44), some (.int a0)] [] (ij_SH, hi, hl, ij_HR) Q := by
  refine ij_br 2 (a0 < 0) 22 4 [some (.ref 44), some (.int a0)] [] (ij_SH, hi, hl, ij_HR) (fun n => rfl) (fun c1 => ?_) (fun c1 => ?_)
  · skip
    exact ij_ret 2 (some (.int (0))) (ij_SH, hi, hl, ij_HR) (fun n => rfl) (q0 c1)
  · skip
    refine ij_br 5 (9 ≤ a0) 22 13 [some (.ref 44), some (.int a0)] [] (ij_SH, hi, hl, ij_HR) (fun n => rfl) (fun c2 => ?_) (fun c2 => ?_)
    · skip
      exact ij_ret 2 (some (.int (0))) (ij_SH, hi, hl, ij_HR) (fun n => rfl) (q1 c1 c2)
    · skip
      refine ij_go 3 18 [some (.ref 44), some (.int a0)] [.int a0, .ref 45] (ij_SH, hi, hl, ij_HR) (fun n => rfl) ?_
      refine ij_ial rfl rfl rfl (ij_bd c1 (Int32.not_le.mp c2) (by decide)) ?_
      exact ij_ret 2 (some (.int ((hi 45 (a0).toNatClampNeg)))) (ij_SH, hi, hl, ij_HR) (fun n => rfl) (q2 c1 c2)
def f135_44 (a0 : Int32) (hi : Nat → Nat → Int32) (hl : Nat → Nat → Int64) : Int32 := if a0 < 0 then (0) else (if 9 ≤ a0 then (0) else ((hi 45 (a0).toNatClampNeg)))
theorem t135_44 {N : Nat} {xs : Nat → Int32} {hi : Nat → Nat → Int32} {hl : Nat → Nat → Int64} {Q : Option Value → ij_H → Prop} (a0 : Int32) (q : Q (some (.int (f135_44 a0 hi hl))) (ij_SH, hi, hl, ij_HR)) : ij_R (ij_xt N xs) 135 0 [some (.ref 44), some (.int a0)] [] (ij_SH, hi, hl, ij_HR) Q :=
  s135_44 a0 (fun k0 => by rw [f135_44, if_pos k0] at q; exact q) (fun k0 k1 => by rw [f135_44, if_neg k0, if_pos k1] at q; exact q) (fun k0 k1 => by rw [f135_44, if_neg k0, if_neg k1] at q; exact q)
set_option maxRecDepth 10000 in
-- ScaleForge$Scale.part(I)I
theorem s135_13 {N : Nat} {xs : Nat → Int32} {hi : Nat → Nat → Int32} {hl : Nat → Nat → Int64} {Q : Option Value → ij_H → Prop} (a0 : Int32) (q0 : (a0 < 0) → Q (some (.int (0))) (ij_SH, hi, hl, ij_HR)) (q1 : ¬ (a0 < 0) → (9 ≤ a0) → Q (some (.int (0))) (ij_SH, hi, hl, ij_HR)) (q2 : ¬ (a0 < 0) → ¬ (9 ≤ a0) → Q (some (.int ((hi 14 (a0).toNatClampNeg)))) (ij_SH, hi, hl, ij_HR)) : ij_R (ij_xt N xs) 135 0 [some (.ref 13), some (.int a0)] [] (ij_SH, hi, hl, ij_HR) Q := by
  refine ij_br 2 (a0 < 0) 22 4 [some (.ref 13), some (.int a0)] [] (ij_SH, hi, hl, ij_HR) (fun n => rfl) (fun c1 => ?_) (fun c1 => ?_)
  · skip
    exact ij_ret 2 (some (.int (0))) (ij_SH, hi, hl, ij_HR) (fun n => rfl) (q0 c1)
  · skip
    refine ij_br 5 (9 ≤ a0) 22 13 [some (.ref 13), some (.int a0)] [] (ij_SH, hi, hl, ij_HR) (fun n => rfl) (fun c2 => ?_) (fun c2 => ?_)
    · skip
      exact ij_ret 2 (some (.int (0))) (ij_SH, hi, hl, ij_HR) (fun n => rfl) (q1 c1 c2)
    · skip
      refine ij_go 3 18 [some (.ref 13), some (.int a0)] [.int a0, .ref 14] (ij_SH, hi, hl, ij_HR) (fun n => rfl) ?_
      refine ij_ial rfl rfl rfl (ij_bd c1 (Int32.not_le.mp c2) (by decide)) ?_
      exact ij_ret 2 (some (.int ((hi 14 (a0).toNatClampNeg)))) (ij_SH, hi, hl, ij_HR) (fun n => rfl) (q2 c1 c2)
def f135_13 (a0 : Int32) (hi : Nat → Nat → Int32) (hl : Nat → Nat → Int64) : Int32 := if a0 < 0 then (0) else (if 9 ≤ a0 then (0) else ((hi 14 (a0).toNatClampNeg)))
theorem t135_13 {N : Nat} {xs : Nat → Int32} {hi : Nat → Nat → Int32} {hl : Nat → Nat → Int64} {Q : Option Value → ij_H → Prop} (a0 : Int32) (q : Q (some (.int (f135_13 a0 hi hl))) (ij_SH, hi, hl, ij_HR)) : ij_R (ij_xt N xs) 135 0 [some (.ref 13), some (.int a0)] [] (ij_SH, hi, hl, ij_HR) Q :=
  s135_13 a0 (fun k0 => by rw [f135_13, if_pos k0] at q; exact q) (fun k0 k1 => by rw [f135_13, if_neg k0, if_pos k1] at q; exact q) (fun k0 k1 => by rw [f135_13, if_neg k0, if_neg k1] at q; exact q)
set_option maxRecDepth 10000 in
-- ScaleForge$Ring.toneAt(I)I
theorem s138_31 {N : Nat} {xs : Nat → Int32} {hi : Nat → Nat → Int32} {hl : Nat → Nat → Int64} {Q : Option Value → ij_H → Prop} (a0 : Int32) (q0 : (a0 < 0) → Q (some (.int ((-1)))) (ij_SH, hi, hl, ij_HR)) (q1 : ¬ (a0 < 0) → ((hi 31 3) ≤ a0) → Q (some (.int ((-1)))) (ij_SH, hi, hl, ij_HR)) (q2 : ¬ (a0 < 0) → ¬ ((hi 31 3) ≤ a0) → (60 ≤ a0) → Q (some (.int ((-1)))) (ij_SH, hi, hl, ij_HR)) (q3 : ¬ (a0 < 0) → ¬ ((hi 31 3) ≤ a0) → ¬ (60 ≤ a0) → Q (some (.int ((hi 32 (a0).toNatClampNeg)))) (ij_SH, hi, hl, ij_HR)) : ij_R (ij_xt N xs) 138 0 [some (.ref 31), some (.int a0)] [] (ij_SH, hi, hl, ij_HR) Q := by
  refine ij_br 2 (a0 < 0) 30 4 [some (.ref 31), some (.int a0)] [] (ij_SH, hi, hl, ij_HR) (fun n => rfl) (fun c1 => ?_) (fun c1 => ?_)
  · skip
    exact ij_ret 2 (some (.int ((-1)))) (ij_SH, hi, hl, ij_HR) (fun n => rfl) (q0 c1)
  · skip
    refine ij_br 4 ((hi 31 3) ≤ a0) 30 12 [some (.ref 31), some (.int a0)] [] (ij_SH, hi, hl, ij_HR) (fun n => rfl) (fun c2 => ?_) (fun c2 => ?_)
    · skip
      exact ij_ret 2 (some (.int ((-1)))) (ij_SH, hi, hl, ij_HR) (fun n => rfl) (q1 c1 c2)
    · skip
      refine ij_br 5 (60 ≤ a0) 30 21 [some (.ref 31), some (.int a0)] [] (ij_SH, hi, hl, ij_HR) (fun n => rfl) (fun c3 => ?_) (fun c3 => ?_)
      · skip
        exact ij_ret 2 (some (.int ((-1)))) (ij_SH, hi, hl, ij_HR) (fun n => rfl) (q2 c1 c2 c3)
      · skip
        refine ij_go 3 26 [some (.ref 31), some (.int a0)] [.int a0, .ref 32] (ij_SH, hi, hl, ij_HR) (fun n => rfl) ?_
        refine ij_ial rfl rfl rfl (ij_bd c1 (Int32.not_le.mp c3) (by decide)) ?_
        exact ij_ret 2 (some (.int ((hi 32 (a0).toNatClampNeg)))) (ij_SH, hi, hl, ij_HR) (fun n => rfl) (q3 c1 c2 c3)
def f138_31 (a0 : Int32) (hi : Nat → Nat → Int32) (hl : Nat → Nat → Int64) : Int32 := if a0 < 0 then ((-1)) else (if (hi 31 3) ≤ a0 then ((-1)) else (if 60 ≤ a0 then ((-1)) else ((hi 32 (a0).toNatClampNeg))))
theorem t138_31 {N : Nat} {xs : Nat → Int32} {hi : Nat → Nat → Int32} {hl : Nat → Nat → Int64} {Q : Option Value → ij_H → Prop} (a0 : Int32) (q : Q (some (.int (f138_31 a0 hi hl))) (ij_SH, hi, hl, ij_HR)) : ij_R (ij_xt N xs) 138 0 [some (.ref 31), some (.int a0)] [] (ij_SH, hi, hl, ij_HR) Q :=
  s138_31 a0 (fun k0 => by rw [f138_31, if_pos k0] at q; exact q) (fun k0 k1 => by rw [f138_31, if_neg k0, if_pos k1] at q; exact q) (fun k0 k1 k2 => by rw [f138_31, if_neg k0, if_neg k1, if_pos k2] at q; exact q) (fun k0 k1 k2 => by rw [f138_31, if_neg k0, if_neg k1, if_neg k2] at q; exact q)
set_option maxRecDepth 10000 in
-- ScaleForge$Ring.between(II)I
theorem s139_31 {N : Nat} {xs : Nat → Int32} {hi : Nat → Nat → Int32} {hl : Nat → Nat → Int64} {Q : Option Value → ij_H → Prop} (a0 : Int32) (a1 : Int32) (q0 : ((0 : Int32) ≤ ((f138_31 a1 hi hl) - (f138_31 a0 hi hl))) → Q (some (.int (((f138_31 a1 hi hl) - (f138_31 a0 hi hl))))) (ij_SH, hi, hl, ij_HR)) (q1 : ¬ ((0 : Int32) ≤ ((f138_31 a1 hi hl) - (f138_31 a0 hi hl))) → Q (some (.int ((((f138_31 a1 hi hl) - (f138_31 a0 hi hl)) + (hi 31 2))))) (ij_SH, hi, hl, ij_HR)) : ij_R (ij_xt N xs) 139 0 [some (.ref 31), some (.int a0), some (.int a1), none] [] (ij_SH, hi, hl, ij_HR) Q := by
  refine ij_call 3 138 [some (.ref 31), some (.int a1)] [] 5 [some (.ref 31), some (.int a0), some (.int a1), none] (ij_SH, hi, hl, ij_HR) (fun n => rfl) (t138_31 a1 ?_)
  -- back
  refine ij_call 3 138 [some (.ref 31), some (.int a0)] [.int ((f138_31 a1 hi hl))] 10 [some (.ref 31), some (.int a0), some (.int a1), none] (ij_SH, hi, hl, ij_HR) (fun n => rfl) (t138_31 a0 ?_)
  -- back
  refine ij_br 4 ((0 : Int32) ≤ ((f138_31 a1 hi hl) - (f138_31 a0 hi hl))) 25 16 [some (.ref 31), some (.int a0), some (.int a1), some (.int (((f138_31 a1 hi hl) - (f138_31 a0 hi hl))))] [] (ij_SH, hi, hl, ij_HR) (fun n => rfl) (fun c1 => ?_) (fun c1 => ?_)
  · skip
    exact ij_ret 2 (some (.int (((f138_31 a1 hi hl) - (f138_31 a0 hi hl))))) (ij_SH, hi, hl, ij_HR) (fun n => rfl) (q0 c1)
  · skip
    exact ij_ret 6 (some (.int ((((f138_31 a1 hi hl) - (f138_31 a0 hi hl)) + (hi 31 2))))) (ij_SH, hi, hl, ij_HR) (fun n => rfl) (q1 c1)
def f139_31 (a0 : Int32) (a1 : Int32) (hi : Nat → Nat → Int32) (hl : Nat → Nat → Int64) : Int32 := if (0 : Int32) ≤ ((f138_31 a1 hi hl) - (f138_31 a0 hi hl)) then (((f138_31 a1 hi hl) - (f138_31 a0 hi hl))) else ((((f138_31 a1 hi hl) - (f138_31 a0 hi hl)) + (hi 31 2)))
theorem t139_31 {N : Nat} {xs : Nat → Int32} {hi : Nat → Nat → Int32} {hl : Nat → Nat → Int64} {Q : Option Value → ij_H → Prop} (a0 : Int32) (a1 : Int32) (q : Q (some (.int (f139_31 a0 a1 hi hl))) (ij_SH, hi, hl, ij_HR)) : ij_R (ij_xt N xs) 139 0 [some (.ref 31), some (.int a0), some (.int a1), none] [] (ij_SH, hi, hl, ij_HR) Q :=
  s139_31 a0 a1 (fun k0 => by rw [f139_31, if_pos k0] at q; exact q) (fun k0 => by rw [f139_31, if_neg k0] at q; exact q)
set_option maxRecDepth 10000 in
-- ScaleForge$Ring.spanFrom(II)I
theorem s140_31 {N : Nat} {xs : Nat → Int32} {hi : Nat → Nat → Int32} {hl : Nat → Nat → Int64} {Q : Option Value → ij_H → Prop} (a0 : Int32) (a1 : Int32) (b0 : (1 ≤ (hi 31 3)) → ¬ ((hi 31 3) = 0)) (q0 : (1 ≤ (hi 31 3)) → Q (some (.int ((((a1 / (hi 31 3)) * (hi 31 2)) + (f139_31 a0 ((a0 + a1) - (a0 + a1) / (hi 31 3) * (hi 31 3)) hi hl))))) (ij_SH, hi, hl, ij_HR)) (q1 : ¬ (1 ≤ (hi 31 3)) → Q (some (.int (0))) (ij_SH, hi, hl, ij_HR)) : ij_R (ij_xt N xs) 140 0 [some (.ref 31), some (.int a0), some (.int a1)] [] (ij_SH, hi, hl, ij_HR) Q := by
  refine ij_br 4 (1 ≤ (hi 31 3)) 10 8 [some (.ref 31), some (.int a0), some (.int a1)] [] (ij_SH, hi, hl, ij_HR) (fun n => rfl) (fun c1 => ?_) (fun c1 => ?_)
  · skip
    refine ij_go 3 15 [some (.ref 31), some (.int a0), some (.int a1)] [.int ((hi 31 3)), .int a1] (ij_SH, hi, hl, ij_HR) (fun n => rfl) ?_
    refine ij_idiv rfl (b0 c1) ?_
    refine ij_go 10 30 [some (.ref 31), some (.int a0), some (.int a1)] [.int ((hi 31 3)), .int ((a0 + a1)), .int a0, .ref 31, .int (((a1 / (hi 31 3)) * (hi 31 2)))] (ij_SH, hi, hl, ij_HR) (fun n => rfl) ?_
    refine ij_irem rfl (b0 c1) ?_
    refine ij_call 1 139 [some (.ref 31), some (.int a0), some (.int (((a0 + a1) - (a0 + a1) / (hi 31 3) * (hi 31 3)))), none] [.int (((a1 / (hi 31 3)) * (hi 31 2)))] 34 [some (.ref 31), some (.int a0), some (.int a1)] (ij_SH, hi, hl, ij_HR) (fun n => rfl) (t139_31 a0 ((a0 + a1) - (a0 + a1) / (hi 31 3) * (hi 31 3)) ?_)
    -- back
    exact ij_ret 2 (some (.int ((((a1 / (hi 31 3)) * (hi 31 2)) + (f139_31 a0 ((a0 + a1) - (a0 + a1) / (hi 31 3) * (hi 31 3)) hi hl))))) (ij_SH, hi, hl, ij_HR) (fun n => rfl) (q0 c1)
  · skip
    exact ij_ret 2 (some (.int (0))) (ij_SH, hi, hl, ij_HR) (fun n => rfl) (q1 c1)
def f140_31 (a0 : Int32) (a1 : Int32) (hi : Nat → Nat → Int32) (hl : Nat → Nat → Int64) : Int32 := if 1 ≤ (hi 31 3) then ((((a1 / (hi 31 3)) * (hi 31 2)) + (f139_31 a0 ((a0 + a1) - (a0 + a1) / (hi 31 3) * (hi 31 3)) hi hl))) else (0)
theorem t140_31 {N : Nat} {xs : Nat → Int32} {hi : Nat → Nat → Int32} {hl : Nat → Nat → Int64} {Q : Option Value → ij_H → Prop} (a0 : Int32) (a1 : Int32) (b0 : (1 ≤ (hi 31 3)) → ¬ ((hi 31 3) = 0)) (q : Q (some (.int (f140_31 a0 a1 hi hl))) (ij_SH, hi, hl, ij_HR)) : ij_R (ij_xt N xs) 140 0 [some (.ref 31), some (.int a0), some (.int a1)] [] (ij_SH, hi, hl, ij_HR) Q :=
  s140_31 a0 a1 b0 (fun k0 => by rw [f140_31, if_pos k0] at q; exact q) (fun k0 => by rw [f140_31, if_neg k0] at q; exact q)
set_option maxRecDepth 10000 in
-- ScaleForgeModel.sounds(I)I
theorem s143_77 {N : Nat} {xs : Nat → Int32} {hi : Nat → Nat → Int32} {hl : Nat → Nat → Int64} {Q : Option Value → ij_H → Prop} (a0 : Int32) (b0 : ¬ ((20 + a0) < 0 ∨ 2392 ≤ ((20 + a0) : Int32).toNatClampNeg)) (q0 : Q (some (.int ((hi 78 ((20 + a0)).toNatClampNeg)))) (ij_SH, hi, hl, ij_HR)) : ij_R (ij_xt N xs) 143 0 [some (.ref 77), some (.int a0)] [] (ij_SH, hi, hl, ij_HR) Q := by
  refine ij_go 5 8 [some (.ref 77), some (.int a0)] [.int ((20 + a0)), .ref 78] (ij_SH, hi, hl, ij_HR) (fun n => rfl) ?_
  refine ij_ial rfl rfl rfl (b0) ?_
  exact ij_ret 1 (some (.int ((hi 78 ((20 + a0)).toNatClampNeg)))) (ij_SH, hi, hl, ij_HR) (fun n => rfl) (q0)
set_option maxRecDepth 10000 in
-- ScaleForge.isFarName(I)Z
theorem s146 {N : Nat} {xs : Nat → Int32} {hi : Nat → Nat → Int32} {hl : Nat → Nat → Int64} {Q : Option Value → ij_H → Prop} (a0 : Int32) (q0 : (a0 < (-60)) → Q (some (.int (1))) (ij_SH, hi, hl, ij_HR)) (q1 : ¬ (a0 < (-60)) → (a0 ≤ 60) → Q (some (.int (0))) (ij_SH, hi, hl, ij_HR)) (q2 : ¬ (a0 < (-60)) → ¬ (a0 ≤ 60) → Q (some (.int (1))) (ij_SH, hi, hl, ij_HR)) : ij_R (ij_xt N xs) 146 0 [some (.int a0)] [] (ij_SH, hi, hl, ij_HR) Q := by
  refine ij_br 3 (a0 < (-60)) 12 6 [some (.int a0)] [] (ij_SH, hi, hl, ij_HR) (fun n => rfl) (fun c1 => ?_) (fun c1 => ?_)
  · skip
    exact ij_ret 3 (some (.int (1))) (ij_SH, hi, hl, ij_HR) (fun n => rfl) (q0 c1)
  · skip
    refine ij_br 3 (a0 ≤ 60) 16 12 [some (.int a0)] [] (ij_SH, hi, hl, ij_HR) (fun n => rfl) (fun c2 => ?_) (fun c2 => ?_)
    · skip
      exact ij_ret 2 (some (.int (0))) (ij_SH, hi, hl, ij_HR) (fun n => rfl) (q1 c1 c2)
    · skip
      exact ij_ret 3 (some (.int (1))) (ij_SH, hi, hl, ij_HR) (fun n => rfl) (q2 c1 c2)
set_option maxRecDepth 10000 in
-- ScaleForge$Scale.chainTone(I)I
theorem s147_23 {N : Nat} {xs : Nat → Int32} {hi : Nat → Nat → Int32} {hl : Nat → Nat → Int64} {Q : Option Value → ij_H → Prop} (a0 : Int32) (q0 : Q (some (.int ((f5_23 ((hi 24 5) + ((a0 - (hi 24 4)) * (hi 24 2))) hi hl)))) (ij_SH, hi, hl, ij_HR)) : ij_R (ij_xt N xs) 147 0 [some (.ref 23), some (.int a0)] [] (ij_SH, hi, hl, ij_HR) Q := by
  refine ij_call 18 5 [some (.ref 23), some (.int (((hi 24 5) + ((a0 - (hi 24 4)) * (hi 24 2))))), none] [] 26 [some (.ref 23), some (.int a0)] (ij_SH, hi, hl, ij_HR) (fun n => rfl) (t5_23 ((hi 24 5) + ((a0 - (hi 24 4)) * (hi 24 2))) ?_)
  -- back
  exact ij_ret 1 (some (.int ((f5_23 ((hi 24 5) + ((a0 - (hi 24 4)) * (hi 24 2))) hi hl)))) (ij_SH, hi, hl, ij_HR) (fun n => rfl) (q0)
set_option maxRecDepth 10000 in
-- ScaleForge$Scale.chainTone(I)I
theorem s147_44 {N : Nat} {xs : Nat → Int32} {hi : Nat → Nat → Int32} {hl : Nat → Nat → Int64} {Q : Option Value → ij_H → Prop} (a0 : Int32) (q0 : Q (some (.int ((f5_44 ((hi 45 5) + ((a0 - (hi 45 4)) * (hi 45 2))) hi hl)))) (ij_SH, hi, hl, ij_HR)) : ij_R (ij_xt N xs) 147 0 [some (.ref 44), some (.int a0)] [] (ij_SH, hi, hl, ij_HR) Q := by
  refine ij_call 18 5 [some (.ref 44), some (.int (((hi 45 5) + ((a0 - (hi 45 4)) * (hi 45 2))))), none] [] 26 [some (.ref 44), some (.int a0)] (ij_SH, hi, hl, ij_HR) (fun n => rfl) (t5_44 ((hi 45 5) + ((a0 - (hi 45 4)) * (hi 45 2))) ?_)
  -- back
  exact ij_ret 1 (some (.int ((f5_44 ((hi 45 5) + ((a0 - (hi 45 4)) * (hi 45 2))) hi hl)))) (ij_SH, hi, hl, ij_HR) (fun n => rfl) (q0)
set_option maxRecDepth 10000 in
-- ScaleForge$Scale.chainTone(I)I
theorem s147_13 {N : Nat} {xs : Nat → Int32} {hi : Nat → Nat → Int32} {hl : Nat → Nat → Int64} {Q : Option Value → ij_H → Prop} (a0 : Int32) (q0 : Q (some (.int ((f5_13 ((hi 14 5) + ((a0 - (hi 14 4)) * (hi 14 2))) hi hl)))) (ij_SH, hi, hl, ij_HR)) : ij_R (ij_xt N xs) 147 0 [some (.ref 13), some (.int a0)] [] (ij_SH, hi, hl, ij_HR) Q := by
  refine ij_call 18 5 [some (.ref 13), some (.int (((hi 14 5) + ((a0 - (hi 14 4)) * (hi 14 2))))), none] [] 26 [some (.ref 13), some (.int a0)] (ij_SH, hi, hl, ij_HR) (fun n => rfl) (t5_13 ((hi 14 5) + ((a0 - (hi 14 4)) * (hi 14 2))) ?_)
  -- back
  exact ij_ret 1 (some (.int ((f5_13 ((hi 14 5) + ((a0 - (hi 14 4)) * (hi 14 2))) hi hl)))) (ij_SH, hi, hl, ij_HR) (fun n => rfl) (q0)
set_option maxRecDepth 10000 in
-- ScaleForge.chain(I)I
theorem s148_0 {N : Nat} {xs : Nat → Int32} {hi : Nat → Nat → Int32} {hl : Nat → Nat → Int64} {Q : Option Value → ij_H → Prop} (a0 : Int32) (q0 : (a0 < (-60)) → Q (some (.int ((-1)))) (ij_SH, (ij_ui hi 0 0 1), hl, ij_HR)) (q1 : ¬ (a0 < (-60)) → (a0 ≤ 60) → Q (some (.int ((f5_23 ((hi 24 5) + ((a0 - (hi 24 4)) * (hi 24 2))) hi hl)))) (ij_SH, (ij_ui hi 0 0 0), hl, ij_HR)) (q2 : ¬ (a0 < (-60)) → ¬ (a0 ≤ 60) → Q (some (.int ((-1)))) (ij_SH, (ij_ui hi 0 0 1), hl, ij_HR)) : ij_R (ij_xt N xs) 148 0 [some (.ref 0), some (.int a0)] [] (ij_SH, hi, hl, ij_HR) Q := by
  refine ij_call 2 146 [some (.int a0)] [] 4 [some (.ref 0), some (.int a0)] (ij_SH, hi, hl, ij_HR) (fun n => rfl) (s146 a0 (fun c1 => ?_) (fun c2 c3 => ?_) (fun c4 c5 => ?_))
  · skip
    refine ij_call 4 44 [some (.ref 0), some (.int (1))] [] 12 [some (.ref 0), some (.int a0)] (ij_SH, hi, hl, ij_HR) (fun n => rfl) (s44_0 1 ?_)
    -- back
    exact ij_ret 2 (some (.int ((-1)))) (ij_SH, (ij_ui hi 0 0 1), hl, ij_HR) (fun n => rfl) (q0 c1)
  · skip
    refine ij_call 6 147 [some (.ref 23), some (.int a0)] [.ref 0] 24 [some (.ref 0), some (.int a0)] (ij_SH, hi, hl, ij_HR) (fun n => rfl) (s147_23 a0 ?_)
    -- back
    refine ij_call 1 90 [some (.ref 0), some (.int ((f5_23 ((hi 24 5) + ((a0 - (hi 24 4)) * (hi 24 2))) hi hl)))] [] 27 [some (.ref 0), some (.int a0)] (ij_SH, hi, hl, ij_HR) (fun n => rfl) (s90_0 (f5_23 ((hi 24 5) + ((a0 - (hi 24 4)) * (hi 24 2))) hi hl) ?_)
    -- back
    exact ij_ret 1 (some (.int ((f5_23 ((hi 24 5) + ((a0 - (hi 24 4)) * (hi 24 2))) hi hl)))) (ij_SH, (ij_ui hi 0 0 0), hl, ij_HR) (fun n => rfl) (q1 c2 c3)
  · skip
    refine ij_call 4 44 [some (.ref 0), some (.int (1))] [] 12 [some (.ref 0), some (.int a0)] (ij_SH, hi, hl, ij_HR) (fun n => rfl) (s44_0 1 ?_)
    -- back
    exact ij_ret 2 (some (.int ((-1)))) (ij_SH, (ij_ui hi 0 0 1), hl, ij_HR) (fun n => rfl) (q2 c4 c5)
set_option maxRecDepth 10000 in
-- ScaleForgeModel.isFrom(JJJ)Z
theorem s149 {N : Nat} {xs : Nat → Int32} {hi : Nat → Nat → Int32} {hl : Nat → Nat → Int64} {Q : Option Value → ij_H → Prop} (a0 : Int64) (a1 : Int64) (a2 : Int64) (q0 : ((lg_cmp a0 a1) < 0) → Q (some (.int (0))) (ij_SH, hi, hl, ij_HR)) (q1 : ¬ ((lg_cmp a0 a1) < 0) → ((0 : Int32) < (lg_cmp a0 a2)) → Q (some (.int (0))) (ij_SH, hi, hl, ij_HR)) (q2 : ¬ ((lg_cmp a0 a1) < 0) → ¬ ((0 : Int32) < (lg_cmp a0 a2)) → Q (some (.int (1))) (ij_SH, hi, hl, ij_HR)) : ij_R (ij_xt N xs) 149 0 [some (.long a0), none, some (.long a1), none, some (.long a2), none] [] (ij_SH, hi, hl, ij_HR) Q := by
  refine ij_br 4 ((lg_cmp a0 a1) < 0) 17 6 [some (.long a0), none, some (.long a1), none, some (.long a2), none] [] (ij_SH, hi, hl, ij_HR) (fun n => rfl) (fun c1 => ?_) (fun c1 => ?_)
  · skip
    exact ij_ret 2 (some (.int (0))) (ij_SH, hi, hl, ij_HR) (fun n => rfl) (q0 c1)
  · skip
    refine ij_br 4 ((0 : Int32) < (lg_cmp a0 a2)) 17 13 [some (.long a0), none, some (.long a1), none, some (.long a2), none] [] (ij_SH, hi, hl, ij_HR) (fun n => rfl) (fun c2 => ?_) (fun c2 => ?_)
    · skip
      exact ij_ret 2 (some (.int (0))) (ij_SH, hi, hl, ij_HR) (fun n => rfl) (q1 c1 c2)
    · skip
      exact ij_ret 3 (some (.int (1))) (ij_SH, hi, hl, ij_HR) (fun n => rfl) (q2 c1 c2)
set_option maxRecDepth 10000 in
-- ScaleForgeModel.chain(I)I
theorem s150_77 {N : Nat} {xs : Nat → Int32} {hi : Nat → Nat → Int32} {hl : Nat → Nat → Int64} {Q : Option Value → ij_H → Prop} (a0 : Int32) (b0 : ¬ ((lg_cmp (a0 : Int32).toInt64 (Int64.ofNat 18446744073709551556)) < 0) → ¬ ((0 : Int32) < (lg_cmp (a0 : Int32).toInt64 (Int64.ofNat 60))) → ¬ ((hi 78 1) = 0)) (q0 : ((lg_cmp (a0 : Int32).toInt64 (Int64.ofNat 18446744073709551556)) < 0) → Q (some (.int ((-1)))) (ij_SH, (ij_ui hi 77 1 1), hl, ij_HR)) (q1 : ¬ ((lg_cmp (a0 : Int32).toInt64 (Int64.ofNat 18446744073709551556)) < 0) → ((0 : Int32) < (lg_cmp (a0 : Int32).toInt64 (Int64.ofNat 60))) → Q (some (.int ((-1)))) (ij_SH, (ij_ui hi 77 1 1), hl, ij_HR)) (q2 : ¬ ((lg_cmp (a0 : Int32).toInt64 (Int64.ofNat 18446744073709551556)) < 0) → ¬ ((0 : Int32) < (lg_cmp (a0 : Int32).toInt64 (Int64.ofNat 60))) → Q (some (.int ((f111 ((hi 78 5) + ((a0 - (hi 78 4)) * (hi 78 2))) (hi 78 1) hi hl)))) (ij_SH, (ij_ui hi 77 1 0), hl, ij_HR)) : ij_R (ij_xt N xs) 150 0 [some (.ref 77), some (.int a0)] [] (ij_SH, hi, hl, ij_HR) Q := by
  refine ij_call 5 149 [some (.long ((a0 : Int32).toInt64)), none, some (.long ((Int64.ofNat 18446744073709551556))), none, some (.long ((Int64.ofNat 60))), none] [] 11 [some (.ref 77), some (.int a0)] (ij_SH, hi, hl, ij_HR) (fun n => rfl) (s149 (a0 : Int32).toInt64 (Int64.ofNat 18446744073709551556) (Int64.ofNat 60) (fun c1 => ?_) (fun c2 c3 => ?_) (fun c4 c5 => ?_))
  · skip
    refine ij_call 4 98 [some (.ref 77), some (.int (1))] [] 37 [some (.ref 77), some (.int a0)] (ij_SH, hi, hl, ij_HR) (fun n => rfl) (s98_77 1 ?_)
    -- back
    exact ij_ret 1 (some (.int ((-1)))) (ij_SH, (ij_ui hi 77 1 1), hl, ij_HR) (fun n => rfl) (q0 c1)
  · skip
    refine ij_call 4 98 [some (.ref 77), some (.int (1))] [] 37 [some (.ref 77), some (.int a0)] (ij_SH, hi, hl, ij_HR) (fun n => rfl) (s98_77 1 ?_)
    -- back
    exact ij_ret 1 (some (.int ((-1)))) (ij_SH, (ij_ui hi 77 1 1), hl, ij_HR) (fun n => rfl) (q1 c2 c3)
  · skip
    refine ij_call 9 112 [some (.ref 77), some (.int a0), some (.int ((hi 78 2)))] [.ref 77] 26 [some (.ref 77), some (.int a0)] (ij_SH, hi, hl, ij_HR) (fun n => rfl) (s112_77 a0 (hi 78 2) (b0 c4 c5) ?_)
    -- back
    refine ij_call 1 115 [some (.ref 77), some (.int ((f111 ((hi 78 5) + ((a0 - (hi 78 4)) * (hi 78 2))) (hi 78 1) hi hl)))] [] 29 [some (.ref 77), some (.int a0)] (ij_SH, hi, hl, ij_HR) (fun n => rfl) (s115_77 (f111 ((hi 78 5) + ((a0 - (hi 78 4)) * (hi 78 2))) (hi 78 1) hi hl) ?_)
    -- back
    exact ij_ret 2 (some (.int ((f111 ((hi 78 5) + ((a0 - (hi 78 4)) * (hi 78 2))) (hi 78 1) hi hl)))) (ij_SH, (ij_ui hi 77 1 0), hl, ij_HR) (fun n => rfl) (q2 c4 c5)
set_option maxRecDepth 10000 in
-- ScaleForge.isDegree(I)Z
theorem s151_0 {N : Nat} {xs : Nat → Int32} {hi : Nat → Nat → Int32} {hl : Nat → Nat → Int64} {Q : Option Value → ij_H → Prop} (a0 : Int32) (q0 : (a0 < 0) → Q (some (.int (0))) (ij_SH, hi, hl, ij_HR)) (q1 : ¬ (a0 < 0) → ((ij_pc (hl 23 4)) ≤ a0) → Q (some (.int (0))) (ij_SH, hi, hl, ij_HR)) (q2 : ¬ (a0 < 0) → ¬ ((ij_pc (hl 23 4)) ≤ a0) → Q (some (.int (1))) (ij_SH, hi, hl, ij_HR)) : ij_R (ij_xt N xs) 151 0 [some (.ref 0), some (.int a0)] [] (ij_SH, hi, hl, ij_HR) Q := by
  refine ij_br 2 (a0 < 0) 19 4 [some (.ref 0), some (.int a0)] [] (ij_SH, hi, hl, ij_HR) (fun n => rfl) (fun c1 => ?_) (fun c1 => ?_)
  · skip
    exact ij_ret 2 (some (.int (0))) (ij_SH, hi, hl, ij_HR) (fun n => rfl) (q0 c1)
  · skip
    refine ij_call 4 89 [some (.ref 23)] [.int a0] 12 [some (.ref 0), some (.int a0)] (ij_SH, hi, hl, ij_HR) (fun n => rfl) (s89_23  ?_)
    -- back
    refine ij_br 1 ((ij_pc (hl 23 4)) ≤ a0) 19 15 [some (.ref 0), some (.int a0)] [] (ij_SH, hi, hl, ij_HR) (fun n => rfl) (fun c2 => ?_) (fun c2 => ?_)
    · skip
      exact ij_ret 2 (some (.int (0))) (ij_SH, hi, hl, ij_HR) (fun n => rfl) (q1 c1 c2)
    · skip
      exact ij_ret 3 (some (.int (1))) (ij_SH, hi, hl, ij_HR) (fun n => rfl) (q2 c1 c2)
set_option maxRecDepth 10000 in
-- ScaleForge$Scale.isOfDegree(I)Z
theorem s155_23 {N : Nat} {xs : Nat → Int32} {hi : Nat → Nat → Int32} {hl : Nat → Nat → Int64} {Q : Option Value → ij_H → Prop} (a0 : Int32) (q0 : (a0 < 0) → Q (some (.int (0))) (ij_SH, hi, hl, ij_HR)) (q1 : ¬ (a0 < 0) → (64 ≤ a0) → Q (some (.int (0))) (ij_SH, hi, hl, ij_HR)) (q2 : ¬ (a0 < 0) → ¬ (64 ≤ a0) → ((lg_cmp ((((hl 23 4) : Int64).toUInt64 >>> ((a0 : Int32).toInt64.toUInt64 &&& Int64.toUInt64 63)).toInt64 &&& 1) 0) = 0) → Q (some (.int (0))) (ij_SH, hi, hl, ij_HR)) (q3 : ¬ (a0 < 0) → ¬ (64 ≤ a0) → ¬ ((lg_cmp ((((hl 23 4) : Int64).toUInt64 >>> ((a0 : Int32).toInt64.toUInt64 &&& Int64.toUInt64 63)).toInt64 &&& 1) 0) = 0) → Q (some (.int (1))) (ij_SH, hi, hl, ij_HR)) : ij_R (ij_xt N xs) 155 0 [some (.ref 23), some (.int a0)] [] (ij_SH, hi, hl, ij_HR) Q := by
  refine ij_call 4 74 [some (.long ((hl 23 4))), none, some (.int a0)] [] 8 [some (.ref 23), some (.int a0)] (ij_SH, hi, hl, ij_HR) (fun n => rfl) (s74 (hl 23 4) a0 (fun c1 => ?_) (fun c2 c3 => ?_) (fun c4 c5 c6 => ?_) (fun c7 c8 c9 => ?_))
  · skip
    exact ij_ret 1 (some (.int (0))) (ij_SH, hi, hl, ij_HR) (fun n => rfl) (q0 c1)
  · skip
    exact ij_ret 1 (some (.int (0))) (ij_SH, hi, hl, ij_HR) (fun n => rfl) (q1 c2 c3)
  · skip
    exact ij_ret 1 (some (.int (0))) (ij_SH, hi, hl, ij_HR) (fun n => rfl) (q2 c4 c5 c6)
  · skip
    exact ij_ret 1 (some (.int (1))) (ij_SH, hi, hl, ij_HR) (fun n => rfl) (q3 c7 c8 c9)
set_option maxRecDepth 10000 in
-- ScaleForge$Scale.isOfDegree(I)Z
theorem s155_44 {N : Nat} {xs : Nat → Int32} {hi : Nat → Nat → Int32} {hl : Nat → Nat → Int64} {Q : Option Value → ij_H → Prop} (a0 : Int32) (q0 : (a0 < 0) → Q (some (.int (0))) (ij_SH, hi, hl, ij_HR)) (q1 : ¬ (a0 < 0) → (64 ≤ a0) → Q (some (.int (0))) (ij_SH, hi, hl, ij_HR)) (q2 : ¬ (a0 < 0) → ¬ (64 ≤ a0) → ((lg_cmp ((((hl 44 4) : Int64).toUInt64 >>> ((a0 : Int32).toInt64.toUInt64 &&& Int64.toUInt64 63)).toInt64 &&& 1) 0) = 0) → Q (some (.int (0))) (ij_SH, hi, hl, ij_HR)) (q3 : ¬ (a0 < 0) → ¬ (64 ≤ a0) → ¬ ((lg_cmp ((((hl 44 4) : Int64).toUInt64 >>> ((a0 : Int32).toInt64.toUInt64 &&& Int64.toUInt64 63)).toInt64 &&& 1) 0) = 0) → Q (some (.int (1))) (ij_SH, hi, hl, ij_HR)) : ij_R (ij_xt N xs) 155 0 [some (.ref 44), some (.int a0)] [] (ij_SH, hi, hl, ij_HR) Q := by
  refine ij_call 4 74 [some (.long ((hl 44 4))), none, some (.int a0)] [] 8 [some (.ref 44), some (.int a0)] (ij_SH, hi, hl, ij_HR) (fun n => rfl) (s74 (hl 44 4) a0 (fun c1 => ?_) (fun c2 c3 => ?_) (fun c4 c5 c6 => ?_) (fun c7 c8 c9 => ?_))
  · skip
    exact ij_ret 1 (some (.int (0))) (ij_SH, hi, hl, ij_HR) (fun n => rfl) (q0 c1)
  · skip
    exact ij_ret 1 (some (.int (0))) (ij_SH, hi, hl, ij_HR) (fun n => rfl) (q1 c2 c3)
  · skip
    exact ij_ret 1 (some (.int (0))) (ij_SH, hi, hl, ij_HR) (fun n => rfl) (q2 c4 c5 c6)
  · skip
    exact ij_ret 1 (some (.int (1))) (ij_SH, hi, hl, ij_HR) (fun n => rfl) (q3 c7 c8 c9)
set_option maxRecDepth 10000 in
-- ScaleForge$Scale.isOfDegree(I)Z
theorem s155_13 {N : Nat} {xs : Nat → Int32} {hi : Nat → Nat → Int32} {hl : Nat → Nat → Int64} {Q : Option Value → ij_H → Prop} (a0 : Int32) (q0 : (a0 < 0) → Q (some (.int (0))) (ij_SH, hi, hl, ij_HR)) (q1 : ¬ (a0 < 0) → (64 ≤ a0) → Q (some (.int (0))) (ij_SH, hi, hl, ij_HR)) (q2 : ¬ (a0 < 0) → ¬ (64 ≤ a0) → ((lg_cmp ((((hl 13 4) : Int64).toUInt64 >>> ((a0 : Int32).toInt64.toUInt64 &&& Int64.toUInt64 63)).toInt64 &&& 1) 0) = 0) → Q (some (.int (0))) (ij_SH, hi, hl, ij_HR)) (q3 : ¬ (a0 < 0) → ¬ (64 ≤ a0) → ¬ ((lg_cmp ((((hl 13 4) : Int64).toUInt64 >>> ((a0 : Int32).toInt64.toUInt64 &&& Int64.toUInt64 63)).toInt64 &&& 1) 0) = 0) → Q (some (.int (1))) (ij_SH, hi, hl, ij_HR)) : ij_R (ij_xt N xs) 155 0 [some (.ref 13), some (.int a0)] [] (ij_SH, hi, hl, ij_HR) Q := by
  refine ij_call 4 74 [some (.long ((hl 13 4))), none, some (.int a0)] [] 8 [some (.ref 13), some (.int a0)] (ij_SH, hi, hl, ij_HR) (fun n => rfl) (s74 (hl 13 4) a0 (fun c1 => ?_) (fun c2 c3 => ?_) (fun c4 c5 c6 => ?_) (fun c7 c8 c9 => ?_))
  · skip
    exact ij_ret 1 (some (.int (0))) (ij_SH, hi, hl, ij_HR) (fun n => rfl) (q0 c1)
  · skip
    exact ij_ret 1 (some (.int (0))) (ij_SH, hi, hl, ij_HR) (fun n => rfl) (q1 c2 c3)
  · skip
    exact ij_ret 1 (some (.int (0))) (ij_SH, hi, hl, ij_HR) (fun n => rfl) (q2 c4 c5 c6)
  · skip
    exact ij_ret 1 (some (.int (1))) (ij_SH, hi, hl, ij_HR) (fun n => rfl) (q3 c7 c8 c9)
set_option maxRecDepth 10000 in
-- ScaleForge.degreeOf(I)I
theorem s156_0 {N : Nat} {xs : Nat → Int32} {hi : Nat → Nat → Int32} {hl : Nat → Nat → Int64} {Q : Option Value → ij_H → Prop} (a0 : Int32) (q0 : Q (some (.int ((ij_pc ((hl 23 4) &&& ((f6 a0 hi hl) - 1)))))) (ij_SH, hi, hl, ij_HR)) : ij_R (ij_xt N xs) 156 0 [some (.ref 0), some (.int a0)] [] (ij_SH, hi, hl, ij_HR) Q := by
  refine ij_call 5 6 [some (.int a0)] [.long ((hl 23 4))] 11 [some (.ref 0), some (.int a0)] (ij_SH, hi, hl, ij_HR) (fun n => rfl) (t6 a0 ?_)
  -- back
  refine ij_call 4 88 [some (.long (((hl 23 4) &&& ((f6 a0 hi hl) - 1)))), none] [] 17 [some (.ref 0), some (.int a0)] (ij_SH, hi, hl, ij_HR) (fun n => rfl) (s_bitCount ((hl 23 4) &&& ((f6 a0 hi hl) - 1)) ?_)
  -- back
  exact ij_ret 1 (some (.int ((ij_pc ((hl 23 4) &&& ((f6 a0 hi hl) - 1)))))) (ij_SH, hi, hl, ij_HR) (fun n => rfl) (q0)
set_option maxRecDepth 10000 in
-- ScaleForge.degree(I)I
theorem s157_0 {N : Nat} {xs : Nat → Int32} {hi : Nat → Nat → Int32} {hl : Nat → Nat → Int64} {Q : Option Value → ij_H → Prop} (a0 : Int32) (q0 : (a0 < 0) → Q (some (.int ((-1)))) (ij_SH, (ij_ui hi 0 0 1), hl, ij_HR)) (q1 : ¬ (a0 < 0) → ((hi 24 1) ≤ a0) → Q (some (.int ((-1)))) (ij_SH, (ij_ui hi 0 0 1), hl, ij_HR)) (q2 : ¬ (a0 < 0) → ¬ ((hi 24 1) ≤ a0) → (64 ≤ a0) → Q (some (.int ((-1)))) (ij_SH, (ij_ui hi 0 0 6), hl, ij_HR)) (q3 : ¬ (a0 < 0) → ¬ ((hi 24 1) ≤ a0) → ¬ (64 ≤ a0) → ((lg_cmp ((((hl 23 4) : Int64).toUInt64 >>> ((a0 : Int32).toInt64.toUInt64 &&& Int64.toUInt64 63)).toInt64 &&& 1) 0) = 0) → Q (some (.int ((-1)))) (ij_SH, (ij_ui hi 0 0 6), hl, ij_HR)) (q4 : ¬ (a0 < 0) → ¬ ((hi 24 1) ≤ a0) → ¬ (64 ≤ a0) → ¬ ((lg_cmp ((((hl 23 4) : Int64).toUInt64 >>> ((a0 : Int32).toInt64.toUInt64 &&& Int64.toUInt64 63)).toInt64 &&& 1) 0) = 0) → Q (some (.int ((ij_pc ((hl 23 4) &&& ((f6 a0 hi hl) - 1)))))) (ij_SH, (ij_ui hi 0 0 0), hl, ij_HR)) : ij_R (ij_xt N xs) 157 0 [some (.ref 0), some (.int a0)] [] (ij_SH, hi, hl, ij_HR) Q := by
  refine ij_call 4 77 [some (.ref 23), some (.int a0)] [] 8 [some (.ref 0), some (.int a0)] (ij_SH, hi, hl, ij_HR) (fun n => rfl) (s77_23 a0 (fun c1 => ?_) (fun c2 c3 => ?_) (fun c4 c5 => ?_))
  · skip
    refine ij_call 4 44 [some (.ref 0), some (.int (1))] [] 16 [some (.ref 0), some (.int a0)] (ij_SH, hi, hl, ij_HR) (fun n => rfl) (s44_0 1 ?_)
    -- back
    exact ij_ret 1 (some (.int ((-1)))) (ij_SH, (ij_ui hi 0 0 1), hl, ij_HR) (fun n => rfl) (q0 c1)
  · skip
    refine ij_call 4 44 [some (.ref 0), some (.int (1))] [] 16 [some (.ref 0), some (.int a0)] (ij_SH, hi, hl, ij_HR) (fun n => rfl) (s44_0 1 ?_)
    -- back
    exact ij_ret 1 (some (.int ((-1)))) (ij_SH, (ij_ui hi 0 0 1), hl, ij_HR) (fun n => rfl) (q1 c2 c3)
  · skip
    refine ij_call 5 155 [some (.ref 23), some (.int a0)] [] 25 [some (.ref 0), some (.int a0)] (ij_SH, hi, hl, ij_HR) (fun n => rfl) (s155_23 a0 (fun c6 => ?_) (fun c7 c8 => ?_) (fun c9 c10 c11 => ?_) (fun c12 c13 c14 => ?_))
    · skip
      exact absurd c6 c4
    · skip
      refine ij_call 4 44 [some (.ref 0), some (.int (6))] [] 46 [some (.ref 0), some (.int a0)] (ij_SH, hi, hl, ij_HR) (fun n => rfl) (s44_0 6 ?_)
      -- back
      exact ij_ret 1 (some (.int ((-1)))) (ij_SH, (ij_ui hi 0 0 6), hl, ij_HR) (fun n => rfl) (q2 c4 c5 c8)
    · skip
      refine ij_call 4 44 [some (.ref 0), some (.int (6))] [] 46 [some (.ref 0), some (.int a0)] (ij_SH, hi, hl, ij_HR) (fun n => rfl) (s44_0 6 ?_)
      -- back
      exact ij_ret 1 (some (.int ((-1)))) (ij_SH, (ij_ui hi 0 0 6), hl, ij_HR) (fun n => rfl) (q3 c4 c5 c10 c11)
    · skip
      refine ij_call 5 156 [some (.ref 0), some (.int a0)] [.ref 0] 34 [some (.ref 0), some (.int a0)] (ij_SH, hi, hl, ij_HR) (fun n => rfl) (s156_0 a0 ?_)
      -- back
      refine ij_call 1 90 [some (.ref 0), some (.int ((ij_pc ((hl 23 4) &&& ((f6 a0 hi hl) - 1)))))] [] 37 [some (.ref 0), some (.int a0)] (ij_SH, hi, hl, ij_HR) (fun n => rfl) (s90_0 (ij_pc ((hl 23 4) &&& ((f6 a0 hi hl) - 1))) ?_)
      -- back
      exact ij_ret 2 (some (.int ((ij_pc ((hl 23 4) &&& ((f6 a0 hi hl) - 1)))))) (ij_SH, (ij_ui hi 0 0 0), hl, ij_HR) (fun n => rfl) (q4 c4 c5 c13 c14)
set_option maxRecDepth 10000 in
-- ScaleForgeModel.isTone(I)Z
theorem s158_77 {N : Nat} {xs : Nat → Int32} {hi : Nat → Nat → Int32} {hl : Nat → Nat → Int64} {Q : Option Value → ij_H → Prop} (a0 : Int32) (q0 : (a0 < 0) → Q (some (.int (0))) (ij_SH, hi, hl, ij_HR)) (q1 : ¬ (a0 < 0) → ((hi 78 1) ≤ a0) → Q (some (.int (0))) (ij_SH, hi, hl, ij_HR)) (q2 : ¬ (a0 < 0) → ¬ ((hi 78 1) ≤ a0) → Q (some (.int (1))) (ij_SH, hi, hl, ij_HR)) : ij_R (ij_xt N xs) 158 0 [some (.ref 77), some (.int a0)] [] (ij_SH, hi, hl, ij_HR) Q := by
  refine ij_br 2 (a0 < 0) 18 4 [some (.ref 77), some (.int a0)] [] (ij_SH, hi, hl, ij_HR) (fun n => rfl) (fun c1 => ?_) (fun c1 => ?_)
  · skip
    exact ij_ret 2 (some (.int (0))) (ij_SH, hi, hl, ij_HR) (fun n => rfl) (q0 c1)
  · skip
    refine ij_br 6 ((hi 78 1) ≤ a0) 18 14 [some (.ref 77), some (.int a0)] [] (ij_SH, hi, hl, ij_HR) (fun n => rfl) (fun c2 => ?_) (fun c2 => ?_)
    · skip
      exact ij_ret 2 (some (.int (0))) (ij_SH, hi, hl, ij_HR) (fun n => rfl) (q1 c1 c2)
    · skip
      exact ij_ret 3 (some (.int (1))) (ij_SH, hi, hl, ij_HR) (fun n => rfl) (q2 c1 c2)
set_option maxRecDepth 10000 in
-- ScaleForgeModel.orNone(I)I
theorem s159_77 {N : Nat} {xs : Nat → Int32} {hi : Nat → Nat → Int32} {hl : Nat → Nat → Int64} {Q : Option Value → ij_H → Prop} (a0 : Int32) (q0 : (a0 = (-1)) → Q (some (.int ((-1)))) (ij_SH, (ij_ui hi 77 1 6), hl, ij_HR)) (q1 : ¬ (a0 = (-1)) → Q (some (.int a0)) (ij_SH, (ij_ui hi 77 1 0), hl, ij_HR)) : ij_R (ij_xt N xs) 159 0 [some (.ref 77), some (.int a0)] [] (ij_SH, hi, hl, ij_HR) Q := by
  refine ij_br 3 (a0 = (-1)) 5 12 [some (.ref 77), some (.int a0)] [] (ij_SH, hi, hl, ij_HR) (fun n => rfl) (fun c1 => ?_) (fun c1 => ?_)
  · skip
    refine ij_call 3 98 [some (.ref 77), some (.int (6))] [] 11 [some (.ref 77), some (.int a0)] (ij_SH, hi, hl, ij_HR) (fun n => rfl) (s98_77 6 ?_)
    -- back
    exact ij_ret 1 (some (.int ((-1)))) (ij_SH, (ij_ui hi 77 1 6), hl, ij_HR) (fun n => rfl) (q0 c1)
  · skip
    refine ij_call 3 115 [some (.ref 77), some (.int a0)] [] 17 [some (.ref 77), some (.int a0)] (ij_SH, hi, hl, ij_HR) (fun n => rfl) (s115_77 a0 ?_)
    -- back
    exact ij_ret 1 (some (.int a0)) (ij_SH, (ij_ui hi 77 1 0), hl, ij_HR) (fun n => rfl) (q1 c1)
set_option maxRecDepth 10000 in
-- ScaleForge.giveFound(I)I
theorem s167_0 {N : Nat} {xs : Nat → Int32} {hi : Nat → Nat → Int32} {hl : Nat → Nat → Int64} {Q : Option Value → ij_H → Prop} (a0 : Int32) (q0 : (a0 = (-1)) → Q (some (.int ((-1)))) (ij_SH, (ij_ui hi 0 0 6), hl, ij_HR)) (q1 : ¬ (a0 = (-1)) → Q (some (.int a0)) (ij_SH, (ij_ui hi 0 0 0), hl, ij_HR)) : ij_R (ij_xt N xs) 167 0 [some (.ref 0), some (.int a0)] [] (ij_SH, hi, hl, ij_HR) Q := by
  refine ij_br 3 (a0 = (-1)) 5 14 [some (.ref 0), some (.int a0)] [] (ij_SH, hi, hl, ij_HR) (fun n => rfl) (fun c1 => ?_) (fun c1 => ?_)
  · skip
    refine ij_call 3 44 [some (.ref 0), some (.int (6))] [] 11 [some (.ref 0), some (.int a0)] (ij_SH, hi, hl, ij_HR) (fun n => rfl) (s44_0 6 ?_)
    -- back
    exact ij_ret 2 (some (.int ((-1)))) (ij_SH, (ij_ui hi 0 0 6), hl, ij_HR) (fun n => rfl) (q0 c1)
  · skip
    refine ij_call 3 90 [some (.ref 0), some (.int a0)] [] 19 [some (.ref 0), some (.int a0)] (ij_SH, hi, hl, ij_HR) (fun n => rfl) (s90_0 a0 ?_)
    -- back
    exact ij_ret 1 (some (.int a0)) (ij_SH, (ij_ui hi 0 0 0), hl, ij_HR) (fun n => rfl) (q1 c1)
set_option maxRecDepth 10000 in
-- ScaleForge.isAllowed(III)Z
theorem s175 {N : Nat} {xs : Nat → Int32} {hi : Nat → Nat → Int32} {hl : Nat → Nat → Int64} {Q : Option Value → ij_H → Prop} (a0 : Int32) (a1 : Int32) (a2 : Int32) (q0 : (a0 < 0) → Q (some (.int (0))) (ij_SH, hi, hl, ij_HR)) (q1 : ¬ (a0 < 0) → (9 ≤ a0) → Q (some (.int (0))) (ij_SH, hi, hl, ij_HR)) (q2 : ¬ (a0 < 0) → ¬ (9 ≤ a0) → (a1 < (f79 a0 hi hl)) → Q (some (.int (0))) (ij_SH, hi, hl, ij_HR)) (q3 : ¬ (a0 < 0) → ¬ (9 ≤ a0) → ¬ (a1 < (f79 a0 hi hl)) → ((f81 a0 a2 hi hl) < a1) → Q (some (.int (0))) (ij_SH, hi, hl, ij_HR)) (q4 : ¬ (a0 < 0) → ¬ (9 ≤ a0) → ¬ (a1 < (f79 a0 hi hl)) → ¬ ((f81 a0 a2 hi hl) < a1) → Q (some (.int (1))) (ij_SH, hi, hl, ij_HR)) : ij_R (ij_xt N xs) 175 0 [some (.int a0), some (.int a1), some (.int a2)] [] (ij_SH, hi, hl, ij_HR) Q := by
  refine ij_br 2 (a0 < 0) 31 4 [some (.int a0), some (.int a1), some (.int a2)] [] (ij_SH, hi, hl, ij_HR) (fun n => rfl) (fun c1 => ?_) (fun c1 => ?_)
  · skip
    exact ij_ret 2 (some (.int (0))) (ij_SH, hi, hl, ij_HR) (fun n => rfl) (q0 c1)
  · skip
    refine ij_br 3 (9 ≤ a0) 31 10 [some (.int a0), some (.int a1), some (.int a2)] [] (ij_SH, hi, hl, ij_HR) (fun n => rfl) (fun c2 => ?_) (fun c2 => ?_)
    · skip
      exact ij_ret 2 (some (.int (0))) (ij_SH, hi, hl, ij_HR) (fun n => rfl) (q1 c1 c2)
    · skip
      refine ij_call 3 79 [some (.int a0)] [.int a1] 15 [some (.int a0), some (.int a1), some (.int a2)] (ij_SH, hi, hl, ij_HR) (fun n => rfl) (t79 a0 ?_)
      -- back
      refine ij_br 1 (a1 < (f79 a0 hi hl)) 31 18 [some (.int a0), some (.int a1), some (.int a2)] [] (ij_SH, hi, hl, ij_HR) (fun n => rfl) (fun c3 => ?_) (fun c3 => ?_)
      · skip
        exact ij_ret 2 (some (.int (0))) (ij_SH, hi, hl, ij_HR) (fun n => rfl) (q2 c1 c2 c3)
      · skip
        refine ij_call 4 81 [some (.int a0), some (.int a2)] [.int a1] 24 [some (.int a0), some (.int a1), some (.int a2)] (ij_SH, hi, hl, ij_HR) (fun n => rfl) (t81 a0 a2 ?_)
        -- back
        refine ij_br 1 ((f81 a0 a2 hi hl) < a1) 31 27 [some (.int a0), some (.int a1), some (.int a2)] [] (ij_SH, hi, hl, ij_HR) (fun n => rfl) (fun c4 => ?_) (fun c4 => ?_)
        · skip
          exact ij_ret 2 (some (.int (0))) (ij_SH, hi, hl, ij_HR) (fun n => rfl) (q3 c1 c2 c3 c4)
        · skip
          exact ij_ret 3 (some (.int (1))) (ij_SH, hi, hl, ij_HR) (fun n => rfl) (q4 c1 c2 c3 c4)
set_option maxRecDepth 10000 in
-- ScaleForge$Scale.release(I)Z
theorem s182_23 {N : Nat} {xs : Nat → Int32} {hi : Nat → Nat → Int32} {hl : Nat → Nat → Int64} {Q : Option Value → ij_H → Prop} (a0 : Int32) (q0 : (a0 < 0) → Q (some (.int (0))) (ij_SH, hi, hl, ij_HR)) (q1 : ¬ (a0 < 0) → (64 ≤ a0) → Q (some (.int (0))) (ij_SH, hi, hl, ij_HR)) (q2 : ¬ (a0 < 0) → ¬ (64 ≤ a0) → ((lg_cmp ((((hl 23 3) : Int64).toUInt64 >>> ((a0 : Int32).toInt64.toUInt64 &&& Int64.toUInt64 63)).toInt64 &&& 1) 0) = 0) → Q (some (.int (0))) (ij_SH, hi, hl, ij_HR)) (q3 : ¬ (a0 < 0) → ¬ (64 ≤ a0) → ¬ ((lg_cmp ((((hl 23 3) : Int64).toUInt64 >>> ((a0 : Int32).toInt64.toUInt64 &&& Int64.toUInt64 63)).toInt64 &&& 1) 0) = 0) → Q (some (.int (1))) (ij_SH, hi, (ij_ul hl 23 3 ((hl 23 3) &&& ((f6 a0 hi hl) ^^^ (Int64.ofNat 18446744073709551615)))), ij_HR)) : ij_R (ij_xt N xs) 182 0 [some (.ref 23), some (.int a0)] [] (ij_SH, hi, hl, ij_HR) Q := by
  refine ij_call 4 74 [some (.long ((hl 23 3))), none, some (.int a0)] [] 8 [some (.ref 23), some (.int a0)] (ij_SH, hi, hl, ij_HR) (fun n => rfl) (s74 (hl 23 3) a0 (fun c1 => ?_) (fun c2 c3 => ?_) (fun c4 c5 c6 => ?_) (fun c7 c8 c9 => ?_))
  · skip
    exact ij_ret 3 (some (.int (0))) (ij_SH, hi, hl, ij_HR) (fun n => rfl) (q0 c1)
  · skip
    exact ij_ret 3 (some (.int (0))) (ij_SH, hi, hl, ij_HR) (fun n => rfl) (q1 c2 c3)
  · skip
    exact ij_ret 3 (some (.int (0))) (ij_SH, hi, hl, ij_HR) (fun n => rfl) (q2 c4 c5 c6)
  · skip
    refine ij_call 6 6 [some (.int a0)] [.long ((hl 23 3)), .ref 23] 22 [some (.ref 23), some (.int a0)] (ij_SH, hi, hl, ij_HR) (fun n => rfl) (t6 a0 ?_)
    -- back
    exact ij_ret 6 (some (.int (1))) (ij_SH, hi, (ij_ul hl 23 3 ((hl 23 3) &&& ((f6 a0 hi hl) ^^^ (Int64.ofNat 18446744073709551615)))), ij_HR) (fun n => rfl) (q3 c7 c8 c9)
set_option maxRecDepth 10000 in
-- ScaleForge$Scale.release(I)Z
theorem s182_44 {N : Nat} {xs : Nat → Int32} {hi : Nat → Nat → Int32} {hl : Nat → Nat → Int64} {Q : Option Value → ij_H → Prop} (a0 : Int32) (q0 : (a0 < 0) → Q (some (.int (0))) (ij_SH, hi, hl, ij_HR)) (q1 : ¬ (a0 < 0) → (64 ≤ a0) → Q (some (.int (0))) (ij_SH, hi, hl, ij_HR)) (q2 : ¬ (a0 < 0) → ¬ (64 ≤ a0) → ((lg_cmp ((((hl 44 3) : Int64).toUInt64 >>> ((a0 : Int32).toInt64.toUInt64 &&& Int64.toUInt64 63)).toInt64 &&& 1) 0) = 0) → Q (some (.int (0))) (ij_SH, hi, hl, ij_HR)) (q3 : ¬ (a0 < 0) → ¬ (64 ≤ a0) → ¬ ((lg_cmp ((((hl 44 3) : Int64).toUInt64 >>> ((a0 : Int32).toInt64.toUInt64 &&& Int64.toUInt64 63)).toInt64 &&& 1) 0) = 0) → Q (some (.int (1))) (ij_SH, hi, (ij_ul hl 44 3 ((hl 44 3) &&& ((f6 a0 hi hl) ^^^ (Int64.ofNat 18446744073709551615)))), ij_HR)) : ij_R (ij_xt N xs) 182 0 [some (.ref 44), some (.int a0)] [] (ij_SH, hi, hl, ij_HR) Q := by
  refine ij_call 4 74 [some (.long ((hl 44 3))), none, some (.int a0)] [] 8 [some (.ref 44), some (.int a0)] (ij_SH, hi, hl, ij_HR) (fun n => rfl) (s74 (hl 44 3) a0 (fun c1 => ?_) (fun c2 c3 => ?_) (fun c4 c5 c6 => ?_) (fun c7 c8 c9 => ?_))
  · skip
    exact ij_ret 3 (some (.int (0))) (ij_SH, hi, hl, ij_HR) (fun n => rfl) (q0 c1)
  · skip
    exact ij_ret 3 (some (.int (0))) (ij_SH, hi, hl, ij_HR) (fun n => rfl) (q1 c2 c3)
  · skip
    exact ij_ret 3 (some (.int (0))) (ij_SH, hi, hl, ij_HR) (fun n => rfl) (q2 c4 c5 c6)
  · skip
    refine ij_call 6 6 [some (.int a0)] [.long ((hl 44 3)), .ref 44] 22 [some (.ref 44), some (.int a0)] (ij_SH, hi, hl, ij_HR) (fun n => rfl) (t6 a0 ?_)
    -- back
    exact ij_ret 6 (some (.int (1))) (ij_SH, hi, (ij_ul hl 44 3 ((hl 44 3) &&& ((f6 a0 hi hl) ^^^ (Int64.ofNat 18446744073709551615)))), ij_HR) (fun n => rfl) (q3 c7 c8 c9)
set_option maxRecDepth 10000 in
-- ScaleForge$Scale.release(I)Z
theorem s182_13 {N : Nat} {xs : Nat → Int32} {hi : Nat → Nat → Int32} {hl : Nat → Nat → Int64} {Q : Option Value → ij_H → Prop} (a0 : Int32) (q0 : (a0 < 0) → Q (some (.int (0))) (ij_SH, hi, hl, ij_HR)) (q1 : ¬ (a0 < 0) → (64 ≤ a0) → Q (some (.int (0))) (ij_SH, hi, hl, ij_HR)) (q2 : ¬ (a0 < 0) → ¬ (64 ≤ a0) → ((lg_cmp ((((hl 13 3) : Int64).toUInt64 >>> ((a0 : Int32).toInt64.toUInt64 &&& Int64.toUInt64 63)).toInt64 &&& 1) 0) = 0) → Q (some (.int (0))) (ij_SH, hi, hl, ij_HR)) (q3 : ¬ (a0 < 0) → ¬ (64 ≤ a0) → ¬ ((lg_cmp ((((hl 13 3) : Int64).toUInt64 >>> ((a0 : Int32).toInt64.toUInt64 &&& Int64.toUInt64 63)).toInt64 &&& 1) 0) = 0) → Q (some (.int (1))) (ij_SH, hi, (ij_ul hl 13 3 ((hl 13 3) &&& ((f6 a0 hi hl) ^^^ (Int64.ofNat 18446744073709551615)))), ij_HR)) : ij_R (ij_xt N xs) 182 0 [some (.ref 13), some (.int a0)] [] (ij_SH, hi, hl, ij_HR) Q := by
  refine ij_call 4 74 [some (.long ((hl 13 3))), none, some (.int a0)] [] 8 [some (.ref 13), some (.int a0)] (ij_SH, hi, hl, ij_HR) (fun n => rfl) (s74 (hl 13 3) a0 (fun c1 => ?_) (fun c2 c3 => ?_) (fun c4 c5 c6 => ?_) (fun c7 c8 c9 => ?_))
  · skip
    exact ij_ret 3 (some (.int (0))) (ij_SH, hi, hl, ij_HR) (fun n => rfl) (q0 c1)
  · skip
    exact ij_ret 3 (some (.int (0))) (ij_SH, hi, hl, ij_HR) (fun n => rfl) (q1 c2 c3)
  · skip
    exact ij_ret 3 (some (.int (0))) (ij_SH, hi, hl, ij_HR) (fun n => rfl) (q2 c4 c5 c6)
  · skip
    refine ij_call 6 6 [some (.int a0)] [.long ((hl 13 3)), .ref 13] 22 [some (.ref 13), some (.int a0)] (ij_SH, hi, hl, ij_HR) (fun n => rfl) (t6 a0 ?_)
    -- back
    exact ij_ret 6 (some (.int (1))) (ij_SH, hi, (ij_ul hl 13 3 ((hl 13 3) &&& ((f6 a0 hi hl) ^^^ (Int64.ofNat 18446744073709551615)))), ij_HR) (fun n => rfl) (q3 c7 c8 c9)
set_option maxRecDepth 10000 in
-- ScaleForge.lift(I)I
theorem s183_0 {N : Nat} {xs : Nat → Int32} {hi : Nat → Nat → Int32} {hl : Nat → Nat → Int64} {Q : Option Value → ij_H → Prop} (a0 : Int32) (q0 : (a0 < 0) → Q (some (.int ((-1)))) (ij_SH, (ij_ui hi 0 0 1), hl, ij_HR)) (q1 : ¬ (a0 < 0) → ((hi 24 1) ≤ a0) → Q (some (.int ((-1)))) (ij_SH, (ij_ui hi 0 0 1), hl, ij_HR)) (q2 : ¬ (a0 < 0) → ¬ ((hi 24 1) ≤ a0) → (64 ≤ a0) → Q (some (.int ((-1)))) (ij_SH, (ij_ui hi 0 0 7), hl, ij_HR)) (q3 : ¬ (a0 < 0) → ¬ ((hi 24 1) ≤ a0) → ¬ (64 ≤ a0) → ((lg_cmp ((((hl 23 3) : Int64).toUInt64 >>> ((a0 : Int32).toInt64.toUInt64 &&& Int64.toUInt64 63)).toInt64 &&& 1) 0) = 0) → Q (some (.int ((-1)))) (ij_SH, (ij_ui hi 0 0 7), hl, ij_HR)) (q4 : ¬ (a0 < 0) → ¬ ((hi 24 1) ≤ a0) → ¬ (64 ≤ a0) → ¬ ((lg_cmp ((((hl 23 3) : Int64).toUInt64 >>> ((a0 : Int32).toInt64.toUInt64 &&& Int64.toUInt64 63)).toInt64 &&& 1) 0) = 0) → Q (some (.int ((ij_pc ((hl 23 3) &&& ((f6 a0 hi hl) ^^^ (Int64.ofNat 18446744073709551615))))))) (ij_SH, (ij_ui hi 0 0 0), (ij_ul hl 23 3 ((hl 23 3) &&& ((f6 a0 hi hl) ^^^ (Int64.ofNat 18446744073709551615)))), ij_HR)) : ij_R (ij_xt N xs) 183 0 [some (.ref 0), some (.int a0)] [] (ij_SH, hi, hl, ij_HR) Q := by
  refine ij_call 4 77 [some (.ref 23), some (.int a0)] [] 8 [some (.ref 0), some (.int a0)] (ij_SH, hi, hl, ij_HR) (fun n => rfl) (s77_23 a0 (fun c1 => ?_) (fun c2 c3 => ?_) (fun c4 c5 => ?_))
  · skip
    refine ij_call 4 44 [some (.ref 0), some (.int (1))] [] 16 [some (.ref 0), some (.int a0)] (ij_SH, hi, hl, ij_HR) (fun n => rfl) (s44_0 1 ?_)
    -- back
    exact ij_ret 1 (some (.int ((-1)))) (ij_SH, (ij_ui hi 0 0 1), hl, ij_HR) (fun n => rfl) (q0 c1)
  · skip
    refine ij_call 4 44 [some (.ref 0), some (.int (1))] [] 16 [some (.ref 0), some (.int a0)] (ij_SH, hi, hl, ij_HR) (fun n => rfl) (s44_0 1 ?_)
    -- back
    exact ij_ret 1 (some (.int ((-1)))) (ij_SH, (ij_ui hi 0 0 1), hl, ij_HR) (fun n => rfl) (q1 c2 c3)
  · skip
    refine ij_call 5 182 [some (.ref 23), some (.int a0)] [] 25 [some (.ref 0), some (.int a0)] (ij_SH, hi, hl, ij_HR) (fun n => rfl) (s182_23 a0 (fun c6 => ?_) (fun c7 c8 => ?_) (fun c9 c10 c11 => ?_) (fun c12 c13 c14 => ?_))
    · skip
      exact absurd c6 c4
    · skip
      refine ij_call 4 44 [some (.ref 0), some (.int (7))] [] 51 [some (.ref 0), some (.int a0)] (ij_SH, hi, hl, ij_HR) (fun n => rfl) (s44_0 7 ?_)
      -- back
      exact ij_ret 1 (some (.int ((-1)))) (ij_SH, (ij_ui hi 0 0 7), hl, ij_HR) (fun n => rfl) (q2 c4 c5 c8)
    · skip
      refine ij_call 4 44 [some (.ref 0), some (.int (7))] [] 51 [some (.ref 0), some (.int a0)] (ij_SH, hi, hl, ij_HR) (fun n => rfl) (s44_0 7 ?_)
      -- back
      exact ij_ret 1 (some (.int ((-1)))) (ij_SH, (ij_ui hi 0 0 7), hl, ij_HR) (fun n => rfl) (q3 c4 c5 c10 c11)
    · skip
      refine ij_call 6 88 [some (.long (((hl 23 3) &&& ((f6 a0 hi hl) ^^^ (Int64.ofNat 18446744073709551615))))), none] [.ref 0] 39 [some (.ref 0), some (.int a0)] (ij_SH, hi, (ij_ul hl 23 3 ((hl 23 3) &&& ((f6 a0 hi hl) ^^^ (Int64.ofNat 18446744073709551615)))), ij_HR) (fun n => rfl) (s_bitCount ((hl 23 3) &&& ((f6 a0 hi hl) ^^^ (Int64.ofNat 18446744073709551615))) ?_)
      -- back
      refine ij_call 1 90 [some (.ref 0), some (.int ((ij_pc ((hl 23 3) &&& ((f6 a0 hi hl) ^^^ (Int64.ofNat 18446744073709551615))))))] [] 42 [some (.ref 0), some (.int a0)] (ij_SH, hi, (ij_ul hl 23 3 ((hl 23 3) &&& ((f6 a0 hi hl) ^^^ (Int64.ofNat 18446744073709551615)))), ij_HR) (fun n => rfl) (s90_0 (ij_pc ((hl 23 3) &&& ((f6 a0 hi hl) ^^^ (Int64.ofNat 18446744073709551615)))) ?_)
      -- back
      exact ij_ret 2 (some (.int ((ij_pc ((hl 23 3) &&& ((f6 a0 hi hl) ^^^ (Int64.ofNat 18446744073709551615))))))) (ij_SH, (ij_ui hi 0 0 0), (ij_ul hl 23 3 ((hl 23 3) &&& ((f6 a0 hi hl) ^^^ (Int64.ofNat 18446744073709551615)))), ij_HR) (fun n => rfl) (q4 c4 c5 c13 c14)
set_option maxRecDepth 10000 in
-- ScaleForgeModel.lifts(I)Z
theorem s184_77 {N : Nat} {xs : Nat → Int32} {hi : Nat → Nat → Int32} {hl : Nat → Nat → Int64} {Q : Option Value → ij_H → Prop} (a0 : Int32) (b0 : ¬ (a0 < 0) → ¬ ((hi 78 1) ≤ a0) → ¬ ((20 + a0) < 0 ∨ 2392 ≤ ((20 + a0) : Int32).toNatClampNeg)) (b1 : ¬ (a0 < 0) → ¬ ((hi 78 1) ≤ a0) → ¬ ((hi 78 ((20 + a0)).toNatClampNeg) = 0) → ¬ ((20 + a0) < 0 ∨ 2392 ≤ ((20 + a0) : Int32).toNatClampNeg)) (q0 : (a0 < 0) → Q (some (.int (0))) (ij_SH, hi, hl, ij_HR)) (q1 : ¬ (a0 < 0) → ((hi 78 1) ≤ a0) → Q (some (.int (0))) (ij_SH, hi, hl, ij_HR)) (q2 : ¬ (a0 < 0) → ¬ ((hi 78 1) ≤ a0) → ((hi 78 ((20 + a0)).toNatClampNeg) = 0) → Q (some (.int (0))) (ij_SH, hi, hl, ij_HR)) (q3 : ¬ (a0 < 0) → ¬ ((hi 78 1) ≤ a0) → ¬ ((hi 78 ((20 + a0)).toNatClampNeg) = 0) → Q (some (.int (1))) (ij_SH, (ij_ui hi 78 ((20 + a0)).toNatClampNeg 0), hl, ij_HR)) : ij_R (ij_xt N xs) 184 0 [some (.ref 77), some (.int a0)] [] (ij_SH, hi, hl, ij_HR) Q := by
  refine ij_call 3 158 [some (.ref 77), some (.int a0)] [] 5 [some (.ref 77), some (.int a0)] (ij_SH, hi, hl, ij_HR) (fun n => rfl) (s158_77 a0 (fun c1 => ?_) (fun c2 c3 => ?_) (fun c4 c5 => ?_))
  · skip
    exact ij_ret 3 (some (.int (0))) (ij_SH, hi, hl, ij_HR) (fun n => rfl) (q0 c1)
  · skip
    exact ij_ret 3 (some (.int (0))) (ij_SH, hi, hl, ij_HR) (fun n => rfl) (q1 c2 c3)
  · skip
    refine ij_call 4 143 [some (.ref 77), some (.int a0)] [] 13 [some (.ref 77), some (.int a0)] (ij_SH, hi, hl, ij_HR) (fun n => rfl) (s143_77 a0 (b0 c4 c5) ?_)
    -- back
    refine ij_br 1 ((hi 78 ((20 + a0)).toNatClampNeg) = 0) 16 18 [some (.ref 77), some (.int a0)] [] (ij_SH, hi, hl, ij_HR) (fun n => rfl) (fun c6 => ?_) (fun c6 => ?_)
    · skip
      exact ij_ret 2 (some (.int (0))) (ij_SH, hi, hl, ij_HR) (fun n => rfl) (q2 c4 c5 c6)
    · skip
      refine ij_go 6 27 [some (.ref 77), some (.int a0)] [.int (0), .int ((20 + a0)), .ref 78] (ij_SH, hi, hl, ij_HR) (fun n => rfl) ?_
      refine ij_ias rfl rfl rfl (b1 c4 c5 c6) ?_
      exact ij_ret 2 (some (.int (1))) (ij_SH, (ij_ui hi 78 ((20 + a0)).toNatClampNeg 0), hl, ij_HR) (fun n => rfl) (q3 c4 c5 c6)
set_option maxRecDepth 10000 in
-- ScaleForge.sift()I
theorem s186_0 {N : Nat} {xs : Nat → Int32} {hi : Nat → Nat → Int32} {hl : Nat → Nat → Int64} {Q : Option Value → ij_H → Prop} (q0 : Q (some (.int (((ij_pc (hl 23 3)) - (ij_pc ((hl 23 3) &&& (hl 23 4))))))) (ij_SH, (ij_ui hi 0 0 0), (ij_ul hl 23 3 ((hl 23 3) &&& (hl 23 4))), ij_HR)) : ij_R (ij_xt N xs) 186 0 [some (.ref 0), none] [] (ij_SH, hi, hl, ij_HR) Q := by
  refine ij_call 4 88 [some (.long ((hl 23 3))), none] [] 10 [some (.ref 0), none] (ij_SH, hi, hl, ij_HR) (fun n => rfl) (s_bitCount (hl 23 3) ?_)
  -- back
  refine ij_call 16 88 [some (.long (((hl 23 3) &&& (hl 23 4)))), none] [.int ((ij_pc (hl 23 3))), .ref 0] 42 [some (.ref 0), some (.int ((ij_pc (hl 23 3))))] (ij_SH, hi, (ij_ul hl 23 3 ((hl 23 3) &&& (hl 23 4))), ij_HR) (fun n => rfl) (s_bitCount ((hl 23 3) &&& (hl 23 4)) ?_)
  -- back
  refine ij_call 2 90 [some (.ref 0), some (.int (((ij_pc (hl 23 3)) - (ij_pc ((hl 23 3) &&& (hl 23 4))))))] [] 46 [some (.ref 0), some (.int ((ij_pc (hl 23 3))))] (ij_SH, hi, (ij_ul hl 23 3 ((hl 23 3) &&& (hl 23 4))), ij_HR) (fun n => rfl) (s90_0 ((ij_pc (hl 23 3)) - (ij_pc ((hl 23 3) &&& (hl 23 4)))) ?_)
  -- back
  exact ij_ret 1 (some (.int (((ij_pc (hl 23 3)) - (ij_pc ((hl 23 3) &&& (hl 23 4))))))) (ij_SH, (ij_ui hi 0 0 0), (ij_ul hl 23 3 ((hl 23 3) &&& (hl 23 4))), ij_HR) (fun n => rfl) (q0)
set_option maxRecDepth 10000 in
-- ScaleForge$Bits.turn(JII)J
theorem s188 {N : Nat} {xs : Nat → Int32} {hi : Nat → Nat → Int32} {hl : Nat → Nat → Int64} {Q : Option Value → ij_H → Prop} (a0 : Int64) (a1 : Int32) (a2 : Int32) (q0 : Q (some (.long ((((a0 <<< ((a1 : Int32).toInt64 &&& 63)) ||| ((a0 : Int64).toUInt64 >>> (((a2 - a1) : Int32).toInt64.toUInt64 &&& Int64.toUInt64 63)).toInt64) &&& ((f6 a2 hi hl) - 1))))) (ij_SH, hi, hl, ij_HR)) : ij_R (ij_xt N xs) 188 0 [some (.long a0), none, some (.int a1), some (.int a2)] [] (ij_SH, hi, hl, ij_HR) Q := by
  refine ij_call 11 7 [some (.int a2)] [.long (((a0 <<< ((a1 : Int32).toInt64 &&& 63)) ||| ((a0 : Int64).toUInt64 >>> (((a2 - a1) : Int32).toInt64.toUInt64 &&& Int64.toUInt64 63)).toInt64))] 13 [some (.long a0), none, some (.int a1), some (.int a2)] (ij_SH, hi, hl, ij_HR) (fun n => rfl) (s7 a2 ?_)
  -- back
  exact ij_ret 2 (some (.long ((((a0 <<< ((a1 : Int32).toInt64 &&& 63)) ||| ((a0 : Int64).toUInt64 >>> (((a2 - a1) : Int32).toInt64.toUInt64 &&& Int64.toUInt64 63)).toInt64) &&& ((f6 a2 hi hl) - 1))))) (ij_SH, hi, hl, ij_HR) (fun n => rfl) (q0)
set_option maxRecDepth 10000 in
-- ScaleForge$Scale.fitting()I
theorem s189_23 {N : Nat} {xs : Nat → Int32} {hi : Nat → Nat → Int32} {hl : Nat → Nat → Int64} {Q : Option Value → ij_H → Prop} (q0 : Q (some (.int ((ij_pc ((hl 23 3) &&& (hl 23 4)))))) (ij_SH, hi, hl, ij_HR)) : ij_R (ij_xt N xs) 189 0 [some (.ref 23)] [] (ij_SH, hi, hl, ij_HR) Q := by
  refine ij_call 6 88 [some (.long (((hl 23 3) &&& (hl 23 4)))), none] [] 12 [some (.ref 23)] (ij_SH, hi, hl, ij_HR) (fun n => rfl) (s_bitCount ((hl 23 3) &&& (hl 23 4)) ?_)
  -- back
  exact ij_ret 1 (some (.int ((ij_pc ((hl 23 3) &&& (hl 23 4)))))) (ij_SH, hi, hl, ij_HR) (fun n => rfl) (q0)
set_option maxRecDepth 10000 in
-- ScaleForge$Scale.fitting()I
theorem s189_44 {N : Nat} {xs : Nat → Int32} {hi : Nat → Nat → Int32} {hl : Nat → Nat → Int64} {Q : Option Value → ij_H → Prop} (q0 : Q (some (.int ((ij_pc ((hl 44 3) &&& (hl 44 4)))))) (ij_SH, hi, hl, ij_HR)) : ij_R (ij_xt N xs) 189 0 [some (.ref 44)] [] (ij_SH, hi, hl, ij_HR) Q := by
  refine ij_call 6 88 [some (.long (((hl 44 3) &&& (hl 44 4)))), none] [] 12 [some (.ref 44)] (ij_SH, hi, hl, ij_HR) (fun n => rfl) (s_bitCount ((hl 44 3) &&& (hl 44 4)) ?_)
  -- back
  exact ij_ret 1 (some (.int ((ij_pc ((hl 44 3) &&& (hl 44 4)))))) (ij_SH, hi, hl, ij_HR) (fun n => rfl) (q0)
set_option maxRecDepth 10000 in
-- ScaleForge$Scale.fitting()I
theorem s189_13 {N : Nat} {xs : Nat → Int32} {hi : Nat → Nat → Int32} {hl : Nat → Nat → Int64} {Q : Option Value → ij_H → Prop} (q0 : Q (some (.int ((ij_pc ((hl 13 3) &&& (hl 13 4)))))) (ij_SH, hi, hl, ij_HR)) : ij_R (ij_xt N xs) 189 0 [some (.ref 13)] [] (ij_SH, hi, hl, ij_HR) Q := by
  refine ij_call 6 88 [some (.long (((hl 13 3) &&& (hl 13 4)))), none] [] 12 [some (.ref 13)] (ij_SH, hi, hl, ij_HR) (fun n => rfl) (s_bitCount ((hl 13 3) &&& (hl 13 4)) ?_)
  -- back
  exact ij_ret 1 (some (.int ((ij_pc ((hl 13 3) &&& (hl 13 4)))))) (ij_SH, hi, hl, ij_HR) (fun n => rfl) (q0)
set_option maxRecDepth 10000 in
-- ScaleForge.glide(I)I
theorem s190_0 {N : Nat} {xs : Nat → Int32} {hi : Nat → Nat → Int32} {hl : Nat → Nat → Int64} {Q : Option Value → ij_H → Prop} (a0 : Int32) (q0 : (a0 < 0) → Q (some (.int ((-1)))) (ij_SH, (ij_ui hi 0 0 1), hl, ij_HR)) (q1 : ¬ (a0 < 0) → (a0 < 60) → Q (some (.int ((ij_pc (((((hl 23 3) <<< (((f5_23 a0 hi hl) : Int32).toInt64 &&& 63)) ||| (((hl 23 3) : Int64).toUInt64 >>> ((((hi 24 1) - (f5_23 a0 hi hl)) : Int32).toInt64.toUInt64 &&& Int64.toUInt64 63)).toInt64) &&& ((f6 (hi 24 1) hi hl) - 1)) &&& (hl 23 4)))))) (ij_SH, (ij_ui hi 0 0 0), (ij_ul hl 23 3 ((((hl 23 3) <<< (((f5_23 a0 hi hl) : Int32).toInt64 &&& 63)) ||| (((hl 23 3) : Int64).toUInt64 >>> ((((hi 24 1) - (f5_23 a0 hi hl)) : Int32).toInt64.toUInt64 &&& Int64.toUInt64 63)).toInt64) &&& ((f6 (hi 24 1) hi hl) - 1))), ij_HR)) (q2 : ¬ (a0 < 0) → ¬ (a0 < 60) → Q (some (.int ((-1)))) (ij_SH, (ij_ui hi 0 0 1), hl, ij_HR)) : ij_R (ij_xt N xs) 190 0 [some (.ref 0), some (.int a0)] [] (ij_SH, hi, hl, ij_HR) Q := by
  refine ij_br 2 (a0 < 0) 10 4 [some (.ref 0), some (.int a0)] [] (ij_SH, hi, hl, ij_HR) (fun n => rfl) (fun c1 => ?_) (fun c1 => ?_)
  · skip
    refine ij_call 3 44 [some (.ref 0), some (.int (1))] [] 15 [some (.ref 0), some (.int a0)] (ij_SH, hi, hl, ij_HR) (fun n => rfl) (s44_0 1 ?_)
    -- back
    exact ij_ret 1 (some (.int ((-1)))) (ij_SH, (ij_ui hi 0 0 1), hl, ij_HR) (fun n => rfl) (q0 c1)
  · skip
    refine ij_br 3 (a0 < 60) 16 10 [some (.ref 0), some (.int a0)] [] (ij_SH, hi, hl, ij_HR) (fun n => rfl) (fun c2 => ?_) (fun c2 => ?_)
    · skip
      refine ij_call 9 5 [some (.ref 23), some (.int a0), none] [.long ((hl 23 3)), .ref 23] 35 [some (.ref 0), some (.int a0)] (ij_SH, hi, hl, ij_HR) (fun n => rfl) (t5_23 a0 ?_)
      -- back
      refine ij_call 3 80 [some (.ref 23)] [.int ((f5_23 a0 hi hl)), .long ((hl 23 3)), .ref 23] 42 [some (.ref 0), some (.int a0)] (ij_SH, hi, hl, ij_HR) (fun n => rfl) (s80_23  ?_)
      -- back
      refine ij_call 1 188 [some (.long ((hl 23 3))), none, some (.int ((f5_23 a0 hi hl))), some (.int ((hi 24 1)))] [.ref 23] 45 [some (.ref 0), some (.int a0)] (ij_SH, hi, hl, ij_HR) (fun n => rfl) (s188 (hl 23 3) (f5_23 a0 hi hl) (hi 24 1) ?_)
      -- back
      refine ij_call 5 189 [some (.ref 23)] [.ref 0] 56 [some (.ref 0), some (.int a0)] (ij_SH, hi, (ij_ul hl 23 3 ((((hl 23 3) <<< (((f5_23 a0 hi hl) : Int32).toInt64 &&& 63)) ||| (((hl 23 3) : Int64).toUInt64 >>> ((((hi 24 1) - (f5_23 a0 hi hl)) : Int32).toInt64.toUInt64 &&& Int64.toUInt64 63)).toInt64) &&& ((f6 (hi 24 1) hi hl) - 1))), ij_HR) (fun n => rfl) (s189_23  ?_)
      -- back
      refine ij_call 1 90 [some (.ref 0), some (.int ((ij_pc (((((hl 23 3) <<< (((f5_23 a0 hi hl) : Int32).toInt64 &&& 63)) ||| (((hl 23 3) : Int64).toUInt64 >>> ((((hi 24 1) - (f5_23 a0 hi hl)) : Int32).toInt64.toUInt64 &&& Int64.toUInt64 63)).toInt64) &&& ((f6 (hi 24 1) hi hl) - 1)) &&& (hl 23 4)))))] [] 59 [some (.ref 0), some (.int a0)] (ij_SH, hi, (ij_ul hl 23 3 ((((hl 23 3) <<< (((f5_23 a0 hi hl) : Int32).toInt64 &&& 63)) ||| (((hl 23 3) : Int64).toUInt64 >>> ((((hi 24 1) - (f5_23 a0 hi hl)) : Int32).toInt64.toUInt64 &&& Int64.toUInt64 63)).toInt64) &&& ((f6 (hi 24 1) hi hl) - 1))), ij_HR) (fun n => rfl) (s90_0 (ij_pc (((((hl 23 3) <<< (((f5_23 a0 hi hl) : Int32).toInt64 &&& 63)) ||| (((hl 23 3) : Int64).toUInt64 >>> ((((hi 24 1) - (f5_23 a0 hi hl)) : Int32).toInt64.toUInt64 &&& Int64.toUInt64 63)).toInt64) &&& ((f6 (hi 24 1) hi hl) - 1)) &&& (hl 23 4))) ?_)
      -- back
      exact ij_ret 1 (some (.int ((ij_pc (((((hl 23 3) <<< (((f5_23 a0 hi hl) : Int32).toInt64 &&& 63)) ||| (((hl 23 3) : Int64).toUInt64 >>> ((((hi 24 1) - (f5_23 a0 hi hl)) : Int32).toInt64.toUInt64 &&& Int64.toUInt64 63)).toInt64) &&& ((f6 (hi 24 1) hi hl) - 1)) &&& (hl 23 4)))))) (ij_SH, (ij_ui hi 0 0 0), (ij_ul hl 23 3 ((((hl 23 3) <<< (((f5_23 a0 hi hl) : Int32).toInt64 &&& 63)) ||| (((hl 23 3) : Int64).toUInt64 >>> ((((hi 24 1) - (f5_23 a0 hi hl)) : Int32).toInt64.toUInt64 &&& Int64.toUInt64 63)).toInt64) &&& ((f6 (hi 24 1) hi hl) - 1))), ij_HR) (fun n => rfl) (q1 c1 c2)
    · skip
      refine ij_call 3 44 [some (.ref 0), some (.int (1))] [] 15 [some (.ref 0), some (.int a0)] (ij_SH, hi, hl, ij_HR) (fun n => rfl) (s44_0 1 ?_)
      -- back
      exact ij_ret 1 (some (.int ((-1)))) (ij_SH, (ij_ui hi 0 0 1), hl, ij_HR) (fun n => rfl) (q2 c1 c2)
set_option maxRecDepth 10000 in
-- ScaleForge$Scale.pressedAt(I)I
theorem s200_23 {N : Nat} {xs : Nat → Int32} {hi : Nat → Nat → Int32} {hl : Nat → Nat → Int64} {Q : Option Value → ij_H → Prop} (a0 : Int32) (q0 : (a0 < 0) → Q (some (.int ((-1)))) (ij_SH, hi, hl, ij_HR)) (q1 : ¬ (a0 < 0) → ((hi 23 2) ≤ a0) → Q (some (.int ((-1)))) (ij_SH, hi, hl, ij_HR)) (q2 : ¬ (a0 < 0) → ¬ ((hi 23 2) ≤ a0) → (12 ≤ a0) → Q (some (.int ((-1)))) (ij_SH, hi, hl, ij_HR)) (q3 : ¬ (a0 < 0) → ¬ ((hi 23 2) ≤ a0) → ¬ (12 ≤ a0) → Q (some (.int ((hi 25 (a0).toNatClampNeg)))) (ij_SH, hi, hl, ij_HR)) : ij_R (ij_xt N xs) 200 0 [some (.ref 23), some (.int a0)] [] (ij_SH, hi, hl, ij_HR) Q := by
  refine ij_br 2 (a0 < 0) 30 4 [some (.ref 23), some (.int a0)] [] (ij_SH, hi, hl, ij_HR) (fun n => rfl) (fun c1 => ?_) (fun c1 => ?_)
  · skip
    exact ij_ret 2 (some (.int ((-1)))) (ij_SH, hi, hl, ij_HR) (fun n => rfl) (q0 c1)
  · skip
    refine ij_br 4 ((hi 23 2) ≤ a0) 30 12 [some (.ref 23), some (.int a0)] [] (ij_SH, hi, hl, ij_HR) (fun n => rfl) (fun c2 => ?_) (fun c2 => ?_)
    · skip
      exact ij_ret 2 (some (.int ((-1)))) (ij_SH, hi, hl, ij_HR) (fun n => rfl) (q1 c1 c2)
    · skip
      refine ij_br 5 (12 ≤ a0) 30 21 [some (.ref 23), some (.int a0)] [] (ij_SH, hi, hl, ij_HR) (fun n => rfl) (fun c3 => ?_) (fun c3 => ?_)
      · skip
        exact ij_ret 2 (some (.int ((-1)))) (ij_SH, hi, hl, ij_HR) (fun n => rfl) (q2 c1 c2 c3)
      · skip
        refine ij_go 3 26 [some (.ref 23), some (.int a0)] [.int a0, .ref 25] (ij_SH, hi, hl, ij_HR) (fun n => rfl) ?_
        refine ij_ial rfl rfl rfl (ij_bd c1 (Int32.not_le.mp c3) (by decide)) ?_
        exact ij_ret 2 (some (.int ((hi 25 (a0).toNatClampNeg)))) (ij_SH, hi, hl, ij_HR) (fun n => rfl) (q3 c1 c2 c3)
def f200_23 (a0 : Int32) (hi : Nat → Nat → Int32) (hl : Nat → Nat → Int64) : Int32 := if a0 < 0 then ((-1)) else (if (hi 23 2) ≤ a0 then ((-1)) else (if 12 ≤ a0 then ((-1)) else ((hi 25 (a0).toNatClampNeg))))
theorem t200_23 {N : Nat} {xs : Nat → Int32} {hi : Nat → Nat → Int32} {hl : Nat → Nat → Int64} {Q : Option Value → ij_H → Prop} (a0 : Int32) (q : Q (some (.int (f200_23 a0 hi hl))) (ij_SH, hi, hl, ij_HR)) : ij_R (ij_xt N xs) 200 0 [some (.ref 23), some (.int a0)] [] (ij_SH, hi, hl, ij_HR) Q :=
  s200_23 a0 (fun k0 => by rw [f200_23, if_pos k0] at q; exact q) (fun k0 k1 => by rw [f200_23, if_neg k0, if_pos k1] at q; exact q) (fun k0 k1 k2 => by rw [f200_23, if_neg k0, if_neg k1, if_pos k2] at q; exact q) (fun k0 k1 k2 => by rw [f200_23, if_neg k0, if_neg k1, if_neg k2] at q; exact q)
set_option maxRecDepth 10000 in
-- ScaleForge$Scale.pressedAt(I)I
theorem s200_44 {N : Nat} {xs : Nat → Int32} {hi : Nat → Nat → Int32} {hl : Nat → Nat → Int64} {Q : Option Value → ij_H → Prop} (a0 : Int32) (q0 : (a0 < 0) → Q (some (.int ((-1)))) (ij_SH, hi, hl, ij_HR)) (q1 : ¬ (a0 < 0) → ((hi 44 2) ≤ a0) → Q (some (.int ((-1)))) (ij_SH, hi, hl, ij_HR)) (q2 : ¬ (a0 < 0) → ¬ ((hi 44 2) ≤ a0) → (12 ≤ a0) → Q (some (.int ((-1)))) (ij_SH, hi, hl, ij_HR)) (q3 : ¬ (a0 < 0) → ¬ ((hi 44 2) ≤ a0) → ¬ (12 ≤ a0) → Q (some (.int ((hi 46 (a0).toNatClampNeg)))) (ij_SH, hi, hl, ij_HR)) : ij_R (ij_xt N xs) 200 0 [some (.ref 44), some (.int a0)] [] (ij_SH, hi, hl, ij_HR) Q := by
  refine ij_br 2 (a0 < 0) 30 4 [some (.ref 44), some (.int a0)] [] (ij_SH, hi, hl, ij_HR) (fun n => rfl) (fun c1 => ?_) (fun c1 => ?_)
  · skip
    exact ij_ret 2 (some (.int ((-1)))) (ij_SH, hi, hl, ij_HR) (fun n => rfl) (q0 c1)
  · skip
    refine ij_br 4 ((hi 44 2) ≤ a0) 30 12 [some (.ref 44), some (.int a0)] [] (ij_SH, hi, hl, ij_HR) (fun n => rfl) (fun c2 => ?_) (fun c2 => ?_)
    · skip
      exact ij_ret 2 (some (.int ((-1)))) (ij_SH, hi, hl, ij_HR) (fun n => rfl) (q1 c1 c2)
    · skip
      refine ij_br 5 (12 ≤ a0) 30 21 [some (.ref 44), some (.int a0)] [] (ij_SH, hi, hl, ij_HR) (fun n => rfl) (fun c3 => ?_) (fun c3 => ?_)
      · skip
        exact ij_ret 2 (some (.int ((-1)))) (ij_SH, hi, hl, ij_HR) (fun n => rfl) (q2 c1 c2 c3)
      · skip
        refine ij_go 3 26 [some (.ref 44), some (.int a0)] [.int a0, .ref 46] (ij_SH, hi, hl, ij_HR) (fun n => rfl) ?_
        refine ij_ial rfl rfl rfl (ij_bd c1 (Int32.not_le.mp c3) (by decide)) ?_
        exact ij_ret 2 (some (.int ((hi 46 (a0).toNatClampNeg)))) (ij_SH, hi, hl, ij_HR) (fun n => rfl) (q3 c1 c2 c3)
def f200_44 (a0 : Int32) (hi : Nat → Nat → Int32) (hl : Nat → Nat → Int64) : Int32 := if a0 < 0 then ((-1)) else (if (hi 44 2) ≤ a0 then ((-1)) else (if 12 ≤ a0 then ((-1)) else ((hi 46 (a0).toNatClampNeg))))
theorem t200_44 {N : Nat} {xs : Nat → Int32} {hi : Nat → Nat → Int32} {hl : Nat → Nat → Int64} {Q : Option Value → ij_H → Prop} (a0 : Int32) (q : Q (some (.int (f200_44 a0 hi hl))) (ij_SH, hi, hl, ij_HR)) : ij_R (ij_xt N xs) 200 0 [some (.ref 44), some (.int a0)] [] (ij_SH, hi, hl, ij_HR) Q :=
  s200_44 a0 (fun k0 => by rw [f200_44, if_pos k0] at q; exact q) (fun k0 k1 => by rw [f200_44, if_neg k0, if_pos k1] at q; exact q) (fun k0 k1 k2 => by rw [f200_44, if_neg k0, if_neg k1, if_pos k2] at q; exact q) (fun k0 k1 k2 => by rw [f200_44, if_neg k0, if_neg k1, if_neg k2] at q; exact q)
set_option maxRecDepth 10000 in
-- ScaleForge$Scale.pressedAt(I)I
theorem s200_13 {N : Nat} {xs : Nat → Int32} {hi : Nat → Nat → Int32} {hl : Nat → Nat → Int64} {Q : Option Value → ij_H → Prop} (a0 : Int32) (q0 : (a0 < 0) → Q (some (.int ((-1)))) (ij_SH, hi, hl, ij_HR)) (q1 : ¬ (a0 < 0) → ((hi 13 2) ≤ a0) → Q (some (.int ((-1)))) (ij_SH, hi, hl, ij_HR)) (q2 : ¬ (a0 < 0) → ¬ ((hi 13 2) ≤ a0) → (12 ≤ a0) → Q (some (.int ((-1)))) (ij_SH, hi, hl, ij_HR)) (q3 : ¬ (a0 < 0) → ¬ ((hi 13 2) ≤ a0) → ¬ (12 ≤ a0) → Q (some (.int ((hi 15 (a0).toNatClampNeg)))) (ij_SH, hi, hl, ij_HR)) : ij_R (ij_xt N xs) 200 0 [some (.ref 13), some (.int a0)] [] (ij_SH, hi, hl, ij_HR) Q := by
  refine ij_br 2 (a0 < 0) 30 4 [some (.ref 13), some (.int a0)] [] (ij_SH, hi, hl, ij_HR) (fun n => rfl) (fun c1 => ?_) (fun c1 => ?_)
  · skip
    exact ij_ret 2 (some (.int ((-1)))) (ij_SH, hi, hl, ij_HR) (fun n => rfl) (q0 c1)
  · skip
    refine ij_br 4 ((hi 13 2) ≤ a0) 30 12 [some (.ref 13), some (.int a0)] [] (ij_SH, hi, hl, ij_HR) (fun n => rfl) (fun c2 => ?_) (fun c2 => ?_)
    · skip
      exact ij_ret 2 (some (.int ((-1)))) (ij_SH, hi, hl, ij_HR) (fun n => rfl) (q1 c1 c2)
    · skip
      refine ij_br 5 (12 ≤ a0) 30 21 [some (.ref 13), some (.int a0)] [] (ij_SH, hi, hl, ij_HR) (fun n => rfl) (fun c3 => ?_) (fun c3 => ?_)
      · skip
        exact ij_ret 2 (some (.int ((-1)))) (ij_SH, hi, hl, ij_HR) (fun n => rfl) (q2 c1 c2 c3)
      · skip
        refine ij_go 3 26 [some (.ref 13), some (.int a0)] [.int a0, .ref 15] (ij_SH, hi, hl, ij_HR) (fun n => rfl) ?_
        refine ij_ial rfl rfl rfl (ij_bd c1 (Int32.not_le.mp c3) (by decide)) ?_
        exact ij_ret 2 (some (.int ((hi 15 (a0).toNatClampNeg)))) (ij_SH, hi, hl, ij_HR) (fun n => rfl) (q3 c1 c2 c3)
def f200_13 (a0 : Int32) (hi : Nat → Nat → Int32) (hl : Nat → Nat → Int64) : Int32 := if a0 < 0 then ((-1)) else (if (hi 13 2) ≤ a0 then ((-1)) else (if 12 ≤ a0 then ((-1)) else ((hi 15 (a0).toNatClampNeg))))
theorem t200_13 {N : Nat} {xs : Nat → Int32} {hi : Nat → Nat → Int32} {hl : Nat → Nat → Int64} {Q : Option Value → ij_H → Prop} (a0 : Int32) (q : Q (some (.int (f200_13 a0 hi hl))) (ij_SH, hi, hl, ij_HR)) : ij_R (ij_xt N xs) 200 0 [some (.ref 13), some (.int a0)] [] (ij_SH, hi, hl, ij_HR) Q :=
  s200_13 a0 (fun k0 => by rw [f200_13, if_pos k0] at q; exact q) (fun k0 k1 => by rw [f200_13, if_neg k0, if_pos k1] at q; exact q) (fun k0 k1 k2 => by rw [f200_13, if_neg k0, if_neg k1, if_pos k2] at q; exact q) (fun k0 k1 k2 => by rw [f200_13, if_neg k0, if_neg k1, if_neg k2] at q; exact q)
set_option maxRecDepth 10000 in
-- ScaleForge.recent(I)I
theorem s201_0 {N : Nat} {xs : Nat → Int32} {hi : Nat → Nat → Int32} {hl : Nat → Nat → Int64} {Q : Option Value → ij_H → Prop} (a0 : Int32) (q0 : ((f200_23 a0 hi hl) = (-1)) → Q (some (.int ((-1)))) (ij_SH, (ij_ui hi 0 0 6), hl, ij_HR)) (q1 : ¬ ((f200_23 a0 hi hl) = (-1)) → Q (some (.int ((f200_23 a0 hi hl)))) (ij_SH, (ij_ui hi 0 0 0), hl, ij_HR)) : ij_R (ij_xt N xs) 201 0 [some (.ref 0), some (.int a0)] [] (ij_SH, hi, hl, ij_HR) Q := by
  refine ij_call 5 200 [some (.ref 23), some (.int a0)] [.ref 0] 9 [some (.ref 0), some (.int a0)] (ij_SH, hi, hl, ij_HR) (fun n => rfl) (t200_23 a0 ?_)
  -- back
  refine ij_call 1 167 [some (.ref 0), some (.int ((f200_23 a0 hi hl)))] [] 12 [some (.ref 0), some (.int a0)] (ij_SH, hi, hl, ij_HR) (fun n => rfl) (s167_0 (f200_23 a0 hi hl) (fun c1 => ?_) (fun c2 => ?_))
  · skip
    exact ij_ret 1 (some (.int ((-1)))) (ij_SH, (ij_ui hi 0 0 6), hl, ij_HR) (fun n => rfl) (q0 c1)
  · skip
    exact ij_ret 1 (some (.int ((f200_23 a0 hi hl)))) (ij_SH, (ij_ui hi 0 0 0), hl, ij_HR) (fun n => rfl) (q1 c2)
set_option maxRecDepth 10000 in
-- ScaleForgeModel.recent(I)I
theorem s202_77 {N : Nat} {xs : Nat → Int32} {hi : Nat → Nat → Int32} {hl : Nat → Nat → Int64} {Q : Option Value → ij_H → Prop} (a0 : Int32) (b0 : ¬ (a0 < 0) → (a0 < (hi 78 9)) → ¬ ((80 + a0) < 0 ∨ 2392 ≤ ((80 + a0) : Int32).toNatClampNeg)) (q0 : (a0 < 0) → Q (some (.int ((-1)))) (ij_SH, (ij_ui hi 77 1 6), hl, ij_HR)) (q1 : ¬ (a0 < 0) → (a0 < (hi 78 9)) → Q (some (.int ((hi 78 ((80 + a0)).toNatClampNeg)))) (ij_SH, (ij_ui hi 77 1 0), hl, ij_HR)) (q2 : ¬ (a0 < 0) → ¬ (a0 < (hi 78 9)) → Q (some (.int ((-1)))) (ij_SH, (ij_ui hi 77 1 6), hl, ij_HR)) : ij_R (ij_xt N xs) 202 0 [some (.ref 77), some (.int a0)] [] (ij_SH, hi, hl, ij_HR) Q := by
  refine ij_br 2 (a0 < 0) 15 4 [some (.ref 77), some (.int a0)] [] (ij_SH, hi, hl, ij_HR) (fun n => rfl) (fun c1 => ?_) (fun c1 => ?_)
  · skip
    refine ij_call 3 98 [some (.ref 77), some (.int (6))] [] 21 [some (.ref 77), some (.int a0)] (ij_SH, hi, hl, ij_HR) (fun n => rfl) (s98_77 6 ?_)
    -- back
    exact ij_ret 2 (some (.int ((-1)))) (ij_SH, (ij_ui hi 77 1 6), hl, ij_HR) (fun n => rfl) (q0 c1)
  · skip
    refine ij_br 6 (a0 < (hi 78 9)) 24 15 [some (.ref 77), some (.int a0)] [] (ij_SH, hi, hl, ij_HR) (fun n => rfl) (fun c2 => ?_) (fun c2 => ?_)
    · skip
      refine ij_go 6 33 [some (.ref 77), some (.int a0)] [.int ((80 + a0)), .ref 78, .ref 77] (ij_SH, hi, hl, ij_HR) (fun n => rfl) ?_
      refine ij_ial rfl rfl rfl (b0 c1 c2) ?_
      refine ij_call 1 115 [some (.ref 77), some (.int ((hi 78 ((80 + a0)).toNatClampNeg)))] [] 37 [some (.ref 77), some (.int a0)] (ij_SH, hi, hl, ij_HR) (fun n => rfl) (s115_77 (hi 78 ((80 + a0)).toNatClampNeg) ?_)
      -- back
      exact ij_ret 1 (some (.int ((hi 78 ((80 + a0)).toNatClampNeg)))) (ij_SH, (ij_ui hi 77 1 0), hl, ij_HR) (fun n => rfl) (q1 c1 c2)
    · skip
      refine ij_call 3 98 [some (.ref 77), some (.int (6))] [] 21 [some (.ref 77), some (.int a0)] (ij_SH, hi, hl, ij_HR) (fun n => rfl) (s98_77 6 ?_)
      -- back
      exact ij_ret 2 (some (.int ((-1)))) (ij_SH, (ij_ui hi 77 1 6), hl, ij_HR) (fun n => rfl) (q2 c1 c2)
set_option maxRecDepth 10000 in
-- ScaleForge$Ring.modeOf(I)J
theorem s215_31 {N : Nat} {xs : Nat → Int32} {hi : Nat → Nat → Int32} {hl : Nat → Nat → Int64} {Q : Option Value → ij_H → Prop} (a0 : Int32) (q0 : ((f138_31 a0 hi hl) ≤ 0) → Q (some (.long ((hl 31 1)))) (ij_SH, hi, hl, ij_HR)) (q1 : ¬ ((f138_31 a0 hi hl) ≤ 0) → Q (some (.long (((((hl 31 1) <<< ((((hi 31 2) - (f138_31 a0 hi hl)) : Int32).toInt64 &&& 63)) ||| (((hl 31 1) : Int64).toUInt64 >>> ((((hi 31 2) - ((hi 31 2) - (f138_31 a0 hi hl))) : Int32).toInt64.toUInt64 &&& Int64.toUInt64 63)).toInt64) &&& ((f6 (hi 31 2) hi hl) - 1))))) (ij_SH, hi, hl, ij_HR)) : ij_R (ij_xt N xs) 215 0 [some (.ref 31), some (.int a0), none] [] (ij_SH, hi, hl, ij_HR) Q := by
  refine ij_call 3 138 [some (.ref 31), some (.int a0)] [] 5 [some (.ref 31), some (.int a0), none] (ij_SH, hi, hl, ij_HR) (fun n => rfl) (t138_31 a0 ?_)
  -- back
  refine ij_br 3 ((f138_31 a0 hi hl) ≤ 0) 30 10 [some (.ref 31), some (.int a0), some (.int ((f138_31 a0 hi hl)))] [] (ij_SH, hi, hl, ij_HR) (fun n => rfl) (fun c1 => ?_) (fun c1 => ?_)
  · skip
    exact ij_ret 3 (some (.long ((hl 31 1)))) (ij_SH, hi, hl, ij_HR) (fun n => rfl) (q0 c1)
  · skip
    refine ij_call 9 188 [some (.long ((hl 31 1))), none, some (.int (((hi 31 2) - (f138_31 a0 hi hl)))), some (.int ((hi 31 2)))] [] 27 [some (.ref 31), some (.int a0), some (.int ((f138_31 a0 hi hl)))] (ij_SH, hi, hl, ij_HR) (fun n => rfl) (s188 (hl 31 1) ((hi 31 2) - (f138_31 a0 hi hl)) (hi 31 2) ?_)
    -- back
    exact ij_ret 2 (some (.long (((((hl 31 1) <<< ((((hi 31 2) - (f138_31 a0 hi hl)) : Int32).toInt64 &&& 63)) ||| (((hl 31 1) : Int64).toUInt64 >>> ((((hi 31 2) - ((hi 31 2) - (f138_31 a0 hi hl))) : Int32).toInt64.toUInt64 &&& Int64.toUInt64 63)).toInt64) &&& ((f6 (hi 31 2) hi hl) - 1))))) (ij_SH, hi, hl, ij_HR) (fun n => rfl) (q1 c1)
def f215_31 (a0 : Int32) (hi : Nat → Nat → Int32) (hl : Nat → Nat → Int64) : Int64 := if (f138_31 a0 hi hl) ≤ 0 then ((hl 31 1)) else (((((hl 31 1) <<< ((((hi 31 2) - (f138_31 a0 hi hl)) : Int32).toInt64 &&& 63)) ||| (((hl 31 1) : Int64).toUInt64 >>> ((((hi 31 2) - ((hi 31 2) - (f138_31 a0 hi hl))) : Int32).toInt64.toUInt64 &&& Int64.toUInt64 63)).toInt64) &&& ((f6 (hi 31 2) hi hl) - 1)))
theorem t215_31 {N : Nat} {xs : Nat → Int32} {hi : Nat → Nat → Int32} {hl : Nat → Nat → Int64} {Q : Option Value → ij_H → Prop} (a0 : Int32) (q : Q (some (.long (f215_31 a0 hi hl))) (ij_SH, hi, hl, ij_HR)) : ij_R (ij_xt N xs) 215 0 [some (.ref 31), some (.int a0), none] [] (ij_SH, hi, hl, ij_HR) Q :=
  s215_31 a0 (fun k0 => by rw [f215_31, if_pos k0] at q; exact q) (fun k0 => by rw [f215_31, if_neg k0] at q; exact q)
set_option maxRecDepth 10000 in
-- ScaleForge$Scale.nominalOf(I)I
theorem s228_23 {N : Nat} {xs : Nat → Int32} {hi : Nat → Nat → Int32} {hl : Nat → Nat → Int64} {Q : Option Value → ij_H → Prop} (a0 : Int32) (q0 : ((hi 24 6) ≤ 0) → Q (some (.int (0))) (ij_SH, hi, hl, ij_HR)) (q1 : ¬ ((hi 24 6) ≤ 0) → Q (some (.int ((f4 a0 (hi 24 6) hi hl)))) (ij_SH, hi, hl, ij_HR)) : ij_R (ij_xt N xs) 228 0 [some (.ref 23), some (.int a0)] [] (ij_SH, hi, hl, ij_HR) Q := by
  refine ij_br 5 ((hi 24 6) ≤ 0) 24 10 [some (.ref 23), some (.int a0)] [] (ij_SH, hi, hl, ij_HR) (fun n => rfl) (fun c1 => ?_) (fun c1 => ?_)
  · skip
    exact ij_ret 2 (some (.int (0))) (ij_SH, hi, hl, ij_HR) (fun n => rfl) (q0 c1)
  · skip
    refine ij_call 6 4 [some (.int a0), some (.int ((hi 24 6))), none] [] 21 [some (.ref 23), some (.int a0)] (ij_SH, hi, hl, ij_HR) (fun n => rfl) (t4 a0 (hi 24 6) (ij_nz1 c1) ?_)
    -- back
    exact ij_ret 2 (some (.int ((f4 a0 (hi 24 6) hi hl)))) (ij_SH, hi, hl, ij_HR) (fun n => rfl) (q1 c1)
def f228_23 (a0 : Int32) (hi : Nat → Nat → Int32) (hl : Nat → Nat → Int64) : Int32 := if (hi 24 6) ≤ 0 then (0) else ((f4 a0 (hi 24 6) hi hl))
theorem t228_23 {N : Nat} {xs : Nat → Int32} {hi : Nat → Nat → Int32} {hl : Nat → Nat → Int64} {Q : Option Value → ij_H → Prop} (a0 : Int32) (q : Q (some (.int (f228_23 a0 hi hl))) (ij_SH, hi, hl, ij_HR)) : ij_R (ij_xt N xs) 228 0 [some (.ref 23), some (.int a0)] [] (ij_SH, hi, hl, ij_HR) Q :=
  s228_23 a0 (fun k0 => by rw [f228_23, if_pos k0] at q; exact q) (fun k0 => by rw [f228_23, if_neg k0] at q; exact q)
set_option maxRecDepth 10000 in
-- ScaleForge$Scale.nominalOf(I)I
theorem s228_44 {N : Nat} {xs : Nat → Int32} {hi : Nat → Nat → Int32} {hl : Nat → Nat → Int64} {Q : Option Value → ij_H → Prop} (a0 : Int32) (q0 : ((hi 45 6) ≤ 0) → Q (some (.int (0))) (ij_SH, hi, hl, ij_HR)) (q1 : ¬ ((hi 45 6) ≤ 0) → Q (some (.int ((f4 a0 (hi 45 6) hi hl)))) (ij_SH, hi, hl, ij_HR)) : ij_R (ij_xt N xs) 228 0 [some (.ref 44), some (.int a0)] [] (ij_SH, hi, hl, ij_HR) Q := by
  refine ij_br 5 ((hi 45 6) ≤ 0) 24 10 [some (.ref 44), some (.int a0)] [] (ij_SH, hi, hl, ij_HR) (fun n => rfl) (fun c1 => ?_) (fun c1 => ?_)
  · skip
    exact ij_ret 2 (some (.int (0))) (ij_SH, hi, hl, ij_HR) (fun n => rfl) (q0 c1)
  · skip
    refine ij_call 6 4 [some (.int a0), some (.int ((hi 45 6))), none] [] 21 [some (.ref 44), some (.int a0)] (ij_SH, hi, hl, ij_HR) (fun n => rfl) (t4 a0 (hi 45 6) (ij_nz1 c1) ?_)
    -- back
    exact ij_ret 2 (some (.int ((f4 a0 (hi 45 6) hi hl)))) (ij_SH, hi, hl, ij_HR) (fun n => rfl) (q1 c1)
def f228_44 (a0 : Int32) (hi : Nat → Nat → Int32) (hl : Nat → Nat → Int64) : Int32 := if (hi 45 6) ≤ 0 then (0) else ((f4 a0 (hi 45 6) hi hl))
theorem t228_44 {N : Nat} {xs : Nat → Int32} {hi : Nat → Nat → Int32} {hl : Nat → Nat → Int64} {Q : Option Value → ij_H → Prop} (a0 : Int32) (q : Q (some (.int (f228_44 a0 hi hl))) (ij_SH, hi, hl, ij_HR)) : ij_R (ij_xt N xs) 228 0 [some (.ref 44), some (.int a0)] [] (ij_SH, hi, hl, ij_HR) Q :=
  s228_44 a0 (fun k0 => by rw [f228_44, if_pos k0] at q; exact q) (fun k0 => by rw [f228_44, if_neg k0] at q; exact q)
set_option maxRecDepth 10000 in
-- ScaleForge$Scale.nominalOf(I)I
theorem s228_13 {N : Nat} {xs : Nat → Int32} {hi : Nat → Nat → Int32} {hl : Nat → Nat → Int64} {Q : Option Value → ij_H → Prop} (a0 : Int32) (q0 : ((hi 14 6) ≤ 0) → Q (some (.int (0))) (ij_SH, hi, hl, ij_HR)) (q1 : ¬ ((hi 14 6) ≤ 0) → Q (some (.int ((f4 a0 (hi 14 6) hi hl)))) (ij_SH, hi, hl, ij_HR)) : ij_R (ij_xt N xs) 228 0 [some (.ref 13), some (.int a0)] [] (ij_SH, hi, hl, ij_HR) Q := by
  refine ij_br 5 ((hi 14 6) ≤ 0) 24 10 [some (.ref 13), some (.int a0)] [] (ij_SH, hi, hl, ij_HR) (fun n => rfl) (fun c1 => ?_) (fun c1 => ?_)
  · skip
    exact ij_ret 2 (some (.int (0))) (ij_SH, hi, hl, ij_HR) (fun n => rfl) (q0 c1)
  · skip
    refine ij_call 6 4 [some (.int a0), some (.int ((hi 14 6))), none] [] 21 [some (.ref 13), some (.int a0)] (ij_SH, hi, hl, ij_HR) (fun n => rfl) (t4 a0 (hi 14 6) (ij_nz1 c1) ?_)
    -- back
    exact ij_ret 2 (some (.int ((f4 a0 (hi 14 6) hi hl)))) (ij_SH, hi, hl, ij_HR) (fun n => rfl) (q1 c1)
def f228_13 (a0 : Int32) (hi : Nat → Nat → Int32) (hl : Nat → Nat → Int64) : Int32 := if (hi 14 6) ≤ 0 then (0) else ((f4 a0 (hi 14 6) hi hl))
theorem t228_13 {N : Nat} {xs : Nat → Int32} {hi : Nat → Nat → Int32} {hl : Nat → Nat → Int64} {Q : Option Value → ij_H → Prop} (a0 : Int32) (q : Q (some (.int (f228_13 a0 hi hl))) (ij_SH, hi, hl, ij_HR)) : ij_R (ij_xt N xs) 228 0 [some (.ref 13), some (.int a0)] [] (ij_SH, hi, hl, ij_HR) Q :=
  s228_13 a0 (fun k0 => by rw [f228_13, if_pos k0] at q; exact q) (fun k0 => by rw [f228_13, if_neg k0] at q; exact q)
set_option maxRecDepth 10000 in
-- ScaleForge.nominal(I)I
theorem s229_0 {N : Nat} {xs : Nat → Int32} {hi : Nat → Nat → Int32} {hl : Nat → Nat → Int64} {Q : Option Value → ij_H → Prop} (a0 : Int32) (q0 : (a0 < (-60)) → Q (some (.int ((-1)))) (ij_SH, (ij_ui hi 0 0 1), hl, ij_HR)) (q1 : ¬ (a0 < (-60)) → (a0 ≤ 60) → Q (some (.int ((f228_23 a0 hi hl)))) (ij_SH, (ij_ui hi 0 0 0), hl, ij_HR)) (q2 : ¬ (a0 < (-60)) → ¬ (a0 ≤ 60) → Q (some (.int ((-1)))) (ij_SH, (ij_ui hi 0 0 1), hl, ij_HR)) : ij_R (ij_xt N xs) 229 0 [some (.ref 0), some (.int a0)] [] (ij_SH, hi, hl, ij_HR) Q := by
  refine ij_call 2 146 [some (.int a0)] [] 4 [some (.ref 0), some (.int a0)] (ij_SH, hi, hl, ij_HR) (fun n => rfl) (s146 a0 (fun c1 => ?_) (fun c2 c3 => ?_) (fun c4 c5 => ?_))
  · skip
    refine ij_call 4 44 [some (.ref 0), some (.int (1))] [] 12 [some (.ref 0), some (.int a0)] (ij_SH, hi, hl, ij_HR) (fun n => rfl) (s44_0 1 ?_)
    -- back
    exact ij_ret 2 (some (.int ((-1)))) (ij_SH, (ij_ui hi 0 0 1), hl, ij_HR) (fun n => rfl) (q0 c1)
  · skip
    refine ij_call 6 228 [some (.ref 23), some (.int a0)] [.ref 0] 24 [some (.ref 0), some (.int a0)] (ij_SH, hi, hl, ij_HR) (fun n => rfl) (t228_23 a0 ?_)
    -- back
    refine ij_call 1 90 [some (.ref 0), some (.int ((f228_23 a0 hi hl)))] [] 27 [some (.ref 0), some (.int a0)] (ij_SH, hi, hl, ij_HR) (fun n => rfl) (s90_0 (f228_23 a0 hi hl) ?_)
    -- back
    exact ij_ret 1 (some (.int ((f228_23 a0 hi hl)))) (ij_SH, (ij_ui hi 0 0 0), hl, ij_HR) (fun n => rfl) (q1 c2 c3)
  · skip
    refine ij_call 4 44 [some (.ref 0), some (.int (1))] [] 12 [some (.ref 0), some (.int a0)] (ij_SH, hi, hl, ij_HR) (fun n => rfl) (s44_0 1 ?_)
    -- back
    exact ij_ret 2 (some (.int ((-1)))) (ij_SH, (ij_ui hi 0 0 1), hl, ij_HR) (fun n => rfl) (q2 c4 c5)
set_option maxRecDepth 10000 in
-- ScaleForgeModel.nominalOf(I)I
theorem s230_77 {N : Nat} {xs : Nat → Int32} {hi : Nat → Nat → Int32} {hl : Nat → Nat → Int64} {Q : Option Value → ij_H → Prop} (a0 : Int32) (b0 : ¬ ((hi 78 6) = 0)) (q0 : Q (some (.int ((f111 a0 (hi 78 6) hi hl)))) (ij_SH, hi, hl, ij_HR)) : ij_R (ij_xt N xs) 230 0 [some (.ref 77), some (.int a0)] [] (ij_SH, hi, hl, ij_HR) Q := by
  refine ij_call 6 111 [some (.int a0), some (.int ((hi 78 6))), none] [] 11 [some (.ref 77), some (.int a0)] (ij_SH, hi, hl, ij_HR) (fun n => rfl) (t111 a0 (hi 78 6) (b0) ?_)
  -- back
  exact ij_ret 1 (some (.int ((f111 a0 (hi 78 6) hi hl)))) (ij_SH, hi, hl, ij_HR) (fun n => rfl) (q0)
set_option maxRecDepth 10000 in
-- ScaleForgeModel.nominal(I)I
theorem s231_77 {N : Nat} {xs : Nat → Int32} {hi : Nat → Nat → Int32} {hl : Nat → Nat → Int64} {Q : Option Value → ij_H → Prop} (a0 : Int32) (b0 : ¬ ((lg_cmp (a0 : Int32).toInt64 (Int64.ofNat 18446744073709551556)) < 0) → ¬ ((0 : Int32) < (lg_cmp (a0 : Int32).toInt64 (Int64.ofNat 60))) → ¬ ((hi 78 6) = 0)) (q0 : ((lg_cmp (a0 : Int32).toInt64 (Int64.ofNat 18446744073709551556)) < 0) → Q (some (.int ((-1)))) (ij_SH, (ij_ui hi 77 1 1), hl, ij_HR)) (q1 : ¬ ((lg_cmp (a0 : Int32).toInt64 (Int64.ofNat 18446744073709551556)) < 0) → ((0 : Int32) < (lg_cmp (a0 : Int32).toInt64 (Int64.ofNat 60))) → Q (some (.int ((-1)))) (ij_SH, (ij_ui hi 77 1 1), hl, ij_HR)) (q2 : ¬ ((lg_cmp (a0 : Int32).toInt64 (Int64.ofNat 18446744073709551556)) < 0) → ¬ ((0 : Int32) < (lg_cmp (a0 : Int32).toInt64 (Int64.ofNat 60))) → Q (some (.int ((f111 a0 (hi 78 6) hi hl)))) (ij_SH, (ij_ui hi 77 1 0), hl, ij_HR)) : ij_R (ij_xt N xs) 231 0 [some (.ref 77), some (.int a0)] [] (ij_SH, hi, hl, ij_HR) Q := by
  refine ij_call 5 149 [some (.long ((a0 : Int32).toInt64)), none, some (.long ((Int64.ofNat 18446744073709551556))), none, some (.long ((Int64.ofNat 60))), none] [] 11 [some (.ref 77), some (.int a0)] (ij_SH, hi, hl, ij_HR) (fun n => rfl) (s149 (a0 : Int32).toInt64 (Int64.ofNat 18446744073709551556) (Int64.ofNat 60) (fun c1 => ?_) (fun c2 c3 => ?_) (fun c4 c5 => ?_))
  · skip
    refine ij_call 4 98 [some (.ref 77), some (.int (1))] [] 31 [some (.ref 77), some (.int a0)] (ij_SH, hi, hl, ij_HR) (fun n => rfl) (s98_77 1 ?_)
    -- back
    exact ij_ret 1 (some (.int ((-1)))) (ij_SH, (ij_ui hi 77 1 1), hl, ij_HR) (fun n => rfl) (q0 c1)
  · skip
    refine ij_call 4 98 [some (.ref 77), some (.int (1))] [] 31 [some (.ref 77), some (.int a0)] (ij_SH, hi, hl, ij_HR) (fun n => rfl) (s98_77 1 ?_)
    -- back
    exact ij_ret 1 (some (.int ((-1)))) (ij_SH, (ij_ui hi 77 1 1), hl, ij_HR) (fun n => rfl) (q1 c2 c3)
  · skip
    refine ij_call 5 230 [some (.ref 77), some (.int a0)] [.ref 77] 20 [some (.ref 77), some (.int a0)] (ij_SH, hi, hl, ij_HR) (fun n => rfl) (s230_77 a0 (b0 c4 c5) ?_)
    -- back
    refine ij_call 1 115 [some (.ref 77), some (.int ((f111 a0 (hi 78 6) hi hl)))] [] 23 [some (.ref 77), some (.int a0)] (ij_SH, hi, hl, ij_HR) (fun n => rfl) (s115_77 (f111 a0 (hi 78 6) hi hl) ?_)
    -- back
    exact ij_ret 2 (some (.int ((f111 a0 (hi 78 6) hi hl)))) (ij_SH, (ij_ui hi 77 1 0), hl, ij_HR) (fun n => rfl) (q2 c4 c5)
set_option maxRecDepth 10000 in
-- java/lang/Math.floorDiv(II)I
theorem s232 {N : Nat} {xs : Nat → Int32} {hi : Nat → Nat → Int32} {hl : Nat → Nat → Int64} {Q : Option Value → ij_H → Prop} (a0 : Int32) (a1 : Int32) (b0 : ¬ (a1 = 0)) (q0 : ((0 : Int32) ≤ (a0 ^^^ a1)) → Q (some (.int ((a0 / a1)))) (ij_SH, hi, hl, ij_HR)) (q1 : ¬ ((0 : Int32) ≤ (a0 ^^^ a1)) → (((a0 / a1) * a1) = a0) → Q (some (.int ((a0 / a1)))) (ij_SH, hi, hl, ij_HR)) (q2 : ¬ ((0 : Int32) ≤ (a0 ^^^ a1)) → ¬ (((a0 / a1) * a1) = a0) → Q (some (.int (((a0 / a1) - 1)))) (ij_SH, hi, hl, ij_HR)) : ij_R (ij_xt N xs) 232 0 [some (.int a0), some (.int a1), none] [] (ij_SH, hi, hl, ij_HR) Q := by
  refine ij_go 2 2 [some (.int a0), some (.int a1), none] [.int a1, .int a0] (ij_SH, hi, hl, ij_HR) (fun n => rfl) ?_
  refine ij_idiv rfl (b0) ?_
  refine ij_br 5 ((0 : Int32) ≤ (a0 ^^^ a1)) 21 10 [some (.int a0), some (.int a1), some (.int ((a0 / a1)))] [] (ij_SH, hi, hl, ij_HR) (fun n => rfl) (fun c1 => ?_) (fun c1 => ?_)
  · skip
    exact ij_ret 2 (some (.int ((a0 / a1)))) (ij_SH, hi, hl, ij_HR) (fun n => rfl) (q0 c1)
  · skip
    refine ij_br 5 (((a0 / a1) * a1) = a0) 21 17 [some (.int a0), some (.int a1), some (.int ((a0 / a1)))] [] (ij_SH, hi, hl, ij_HR) (fun n => rfl) (fun c2 => ?_) (fun c2 => ?_)
    · skip
      exact ij_ret 2 (some (.int ((a0 / a1)))) (ij_SH, hi, hl, ij_HR) (fun n => rfl) (q1 c1 c2)
    · skip
      exact ij_ret 4 (some (.int (((a0 / a1) - 1)))) (ij_SH, hi, hl, ij_HR) (fun n => rfl) (q2 c1 c2)
def f232 (a0 : Int32) (a1 : Int32) (hi : Nat → Nat → Int32) (hl : Nat → Nat → Int64) : Int32 := if (0 : Int32) ≤ (a0 ^^^ a1) then ((a0 / a1)) else (if ((a0 / a1) * a1) = a0 then ((a0 / a1)) else (((a0 / a1) - 1)))
theorem t232 {N : Nat} {xs : Nat → Int32} {hi : Nat → Nat → Int32} {hl : Nat → Nat → Int64} {Q : Option Value → ij_H → Prop} (a0 : Int32) (a1 : Int32) (b0 : ¬ (a1 = 0)) (q : Q (some (.int (f232 a0 a1 hi hl))) (ij_SH, hi, hl, ij_HR)) : ij_R (ij_xt N xs) 232 0 [some (.int a0), some (.int a1), none] [] (ij_SH, hi, hl, ij_HR) Q :=
  s232 a0 a1 b0 (fun k0 => by rw [f232, if_pos k0] at q; exact q) (fun k0 k1 => by rw [f232, if_neg k0, if_pos k1] at q; exact q) (fun k0 k1 => by rw [f232, if_neg k0, if_neg k1] at q; exact q)
set_option maxRecDepth 10000 in
-- ScaleForge$Scale.sharpsOf(I)I
theorem s233_23 {N : Nat} {xs : Nat → Int32} {hi : Nat → Nat → Int32} {hl : Nat → Nat → Int64} {Q : Option Value → ij_H → Prop} (a0 : Int32) (q0 : ((hi 24 6) ≤ 0) → Q (some (.int (0))) (ij_SH, hi, hl, ij_HR)) (q1 : ¬ ((hi 24 6) ≤ 0) → Q (some (.int ((f232 a0 (hi 24 6) hi hl)))) (ij_SH, hi, hl, ij_HR)) : ij_R (ij_xt N xs) 233 0 [some (.ref 23), some (.int a0)] [] (ij_SH, hi, hl, ij_HR) Q := by
  refine ij_br 5 ((hi 24 6) ≤ 0) 24 10 [some (.ref 23), some (.int a0)] [] (ij_SH, hi, hl, ij_HR) (fun n => rfl) (fun c1 => ?_) (fun c1 => ?_)
  · skip
    exact ij_ret 2 (some (.int (0))) (ij_SH, hi, hl, ij_HR) (fun n => rfl) (q0 c1)
  · skip
    refine ij_call 6 232 [some (.int a0), some (.int ((hi 24 6))), none] [] 21 [some (.ref 23), some (.int a0)] (ij_SH, hi, hl, ij_HR) (fun n => rfl) (t232 a0 (hi 24 6) (ij_nz1 c1) ?_)
    -- back
    exact ij_ret 2 (some (.int ((f232 a0 (hi 24 6) hi hl)))) (ij_SH, hi, hl, ij_HR) (fun n => rfl) (q1 c1)
def f233_23 (a0 : Int32) (hi : Nat → Nat → Int32) (hl : Nat → Nat → Int64) : Int32 := if (hi 24 6) ≤ 0 then (0) else ((f232 a0 (hi 24 6) hi hl))
theorem t233_23 {N : Nat} {xs : Nat → Int32} {hi : Nat → Nat → Int32} {hl : Nat → Nat → Int64} {Q : Option Value → ij_H → Prop} (a0 : Int32) (q : Q (some (.int (f233_23 a0 hi hl))) (ij_SH, hi, hl, ij_HR)) : ij_R (ij_xt N xs) 233 0 [some (.ref 23), some (.int a0)] [] (ij_SH, hi, hl, ij_HR) Q :=
  s233_23 a0 (fun k0 => by rw [f233_23, if_pos k0] at q; exact q) (fun k0 => by rw [f233_23, if_neg k0] at q; exact q)
set_option maxRecDepth 10000 in
-- ScaleForge$Scale.sharpsOf(I)I
theorem s233_44 {N : Nat} {xs : Nat → Int32} {hi : Nat → Nat → Int32} {hl : Nat → Nat → Int64} {Q : Option Value → ij_H → Prop} (a0 : Int32) (q0 : ((hi 45 6) ≤ 0) → Q (some (.int (0))) (ij_SH, hi, hl, ij_HR)) (q1 : ¬ ((hi 45 6) ≤ 0) → Q (some (.int ((f232 a0 (hi 45 6) hi hl)))) (ij_SH, hi, hl, ij_HR)) : ij_R (ij_xt N xs) 233 0 [some (.ref 44), some (.int a0)] [] (ij_SH, hi, hl, ij_HR) Q := by
  refine ij_br 5 ((hi 45 6) ≤ 0) 24 10 [some (.ref 44), some (.int a0)] [] (ij_SH, hi, hl, ij_HR) (fun n => rfl) (fun c1 => ?_) (fun c1 => ?_)
  · skip
    exact ij_ret 2 (some (.int (0))) (ij_SH, hi, hl, ij_HR) (fun n => rfl) (q0 c1)
  · skip
    refine ij_call 6 232 [some (.int a0), some (.int ((hi 45 6))), none] [] 21 [some (.ref 44), some (.int a0)] (ij_SH, hi, hl, ij_HR) (fun n => rfl) (t232 a0 (hi 45 6) (ij_nz1 c1) ?_)
    -- back
    exact ij_ret 2 (some (.int ((f232 a0 (hi 45 6) hi hl)))) (ij_SH, hi, hl, ij_HR) (fun n => rfl) (q1 c1)
def f233_44 (a0 : Int32) (hi : Nat → Nat → Int32) (hl : Nat → Nat → Int64) : Int32 := if (hi 45 6) ≤ 0 then (0) else ((f232 a0 (hi 45 6) hi hl))
theorem t233_44 {N : Nat} {xs : Nat → Int32} {hi : Nat → Nat → Int32} {hl : Nat → Nat → Int64} {Q : Option Value → ij_H → Prop} (a0 : Int32) (q : Q (some (.int (f233_44 a0 hi hl))) (ij_SH, hi, hl, ij_HR)) : ij_R (ij_xt N xs) 233 0 [some (.ref 44), some (.int a0)] [] (ij_SH, hi, hl, ij_HR) Q :=
  s233_44 a0 (fun k0 => by rw [f233_44, if_pos k0] at q; exact q) (fun k0 => by rw [f233_44, if_neg k0] at q; exact q)
set_option maxRecDepth 10000 in
-- ScaleForge$Scale.sharpsOf(I)I
theorem s233_13 {N : Nat} {xs : Nat → Int32} {hi : Nat → Nat → Int32} {hl : Nat → Nat → Int64} {Q : Option Value → ij_H → Prop} (a0 : Int32) (q0 : ((hi 14 6) ≤ 0) → Q (some (.int (0))) (ij_SH, hi, hl, ij_HR)) (q1 : ¬ ((hi 14 6) ≤ 0) → Q (some (.int ((f232 a0 (hi 14 6) hi hl)))) (ij_SH, hi, hl, ij_HR)) : ij_R (ij_xt N xs) 233 0 [some (.ref 13), some (.int a0)] [] (ij_SH, hi, hl, ij_HR) Q := by
  refine ij_br 5 ((hi 14 6) ≤ 0) 24 10 [some (.ref 13), some (.int a0)] [] (ij_SH, hi, hl, ij_HR) (fun n => rfl) (fun c1 => ?_) (fun c1 => ?_)
  · skip
    exact ij_ret 2 (some (.int (0))) (ij_SH, hi, hl, ij_HR) (fun n => rfl) (q0 c1)
  · skip
    refine ij_call 6 232 [some (.int a0), some (.int ((hi 14 6))), none] [] 21 [some (.ref 13), some (.int a0)] (ij_SH, hi, hl, ij_HR) (fun n => rfl) (t232 a0 (hi 14 6) (ij_nz1 c1) ?_)
    -- back
    exact ij_ret 2 (some (.int ((f232 a0 (hi 14 6) hi hl)))) (ij_SH, hi, hl, ij_HR) (fun n => rfl) (q1 c1)
def f233_13 (a0 : Int32) (hi : Nat → Nat → Int32) (hl : Nat → Nat → Int64) : Int32 := if (hi 14 6) ≤ 0 then (0) else ((f232 a0 (hi 14 6) hi hl))
theorem t233_13 {N : Nat} {xs : Nat → Int32} {hi : Nat → Nat → Int32} {hl : Nat → Nat → Int64} {Q : Option Value → ij_H → Prop} (a0 : Int32) (q : Q (some (.int (f233_13 a0 hi hl))) (ij_SH, hi, hl, ij_HR)) : ij_R (ij_xt N xs) 233 0 [some (.ref 13), some (.int a0)] [] (ij_SH, hi, hl, ij_HR) Q :=
  s233_13 a0 (fun k0 => by rw [f233_13, if_pos k0] at q; exact q) (fun k0 => by rw [f233_13, if_neg k0] at q; exact q)
set_option maxRecDepth 10000 in
-- ScaleForge.sharps(I)I
theorem s234_0 {N : Nat} {xs : Nat → Int32} {hi : Nat → Nat → Int32} {hl : Nat → Nat → Int64} {Q : Option Value → ij_H → Prop} (a0 : Int32) (q0 : (a0 < (-60)) → Q (some (.int ((-1)))) (ij_SH, (ij_ui hi 0 0 1), hl, ij_HR)) (q1 : ¬ (a0 < (-60)) → (a0 ≤ 60) → Q (some (.int ((f233_23 a0 hi hl)))) (ij_SH, (ij_ui hi 0 0 0), hl, ij_HR)) (q2 : ¬ (a0 < (-60)) → ¬ (a0 ≤ 60) → Q (some (.int ((-1)))) (ij_SH, (ij_ui hi 0 0 1), hl, ij_HR)) : ij_R (ij_xt N xs) 234 0 [some (.ref 0), some (.int a0)] [] (ij_SH, hi, hl, ij_HR) Q := by
  refine ij_call 2 146 [some (.int a0)] [] 4 [some (.ref 0), some (.int a0)] (ij_SH, hi, hl, ij_HR) (fun n => rfl) (s146 a0 (fun c1 => ?_) (fun c2 c3 => ?_) (fun c4 c5 => ?_))
  · skip
    refine ij_call 4 44 [some (.ref 0), some (.int (1))] [] 12 [some (.ref 0), some (.int a0)] (ij_SH, hi, hl, ij_HR) (fun n => rfl) (s44_0 1 ?_)
    -- back
    exact ij_ret 2 (some (.int ((-1)))) (ij_SH, (ij_ui hi 0 0 1), hl, ij_HR) (fun n => rfl) (q0 c1)
  · skip
    refine ij_call 6 233 [some (.ref 23), some (.int a0)] [.ref 0] 24 [some (.ref 0), some (.int a0)] (ij_SH, hi, hl, ij_HR) (fun n => rfl) (t233_23 a0 ?_)
    -- back
    refine ij_call 1 90 [some (.ref 0), some (.int ((f233_23 a0 hi hl)))] [] 27 [some (.ref 0), some (.int a0)] (ij_SH, hi, hl, ij_HR) (fun n => rfl) (s90_0 (f233_23 a0 hi hl) ?_)
    -- back
    exact ij_ret 1 (some (.int ((f233_23 a0 hi hl)))) (ij_SH, (ij_ui hi 0 0 0), hl, ij_HR) (fun n => rfl) (q1 c2 c3)
  · skip
    refine ij_call 4 44 [some (.ref 0), some (.int (1))] [] 12 [some (.ref 0), some (.int a0)] (ij_SH, hi, hl, ij_HR) (fun n => rfl) (s44_0 1 ?_)
    -- back
    exact ij_ret 2 (some (.int ((-1)))) (ij_SH, (ij_ui hi 0 0 1), hl, ij_HR) (fun n => rfl) (q2 c4 c5)
set_option maxRecDepth 10000 in
-- ScaleForgeModel.sharpsOf(I)I
theorem s235_77 {N : Nat} {xs : Nat → Int32} {hi : Nat → Nat → Int32} {hl : Nat → Nat → Int64} {Q : Option Value → ij_H → Prop} (a0 : Int32) (b0 : ¬ ((hi 78 6) = 0)) (q0 : Q (some (.int (((a0 - (f111 a0 (hi 78 6) hi hl)) / (hi 78 6))))) (ij_SH, hi, hl, ij_HR)) : ij_R (ij_xt N xs) 235 0 [some (.ref 77), some (.int a0)] [] (ij_SH, hi, hl, ij_HR) Q := by
  refine ij_call 4 230 [some (.ref 77), some (.int a0)] [.int a0] 6 [some (.ref 77), some (.int a0)] (ij_SH, hi, hl, ij_HR) (fun n => rfl) (s230_77 a0 (b0) ?_)
  -- back
  refine ij_go 5 14 [some (.ref 77), some (.int a0)] [.int ((hi 78 6)), .int ((a0 - (f111 a0 (hi 78 6) hi hl)))] (ij_SH, hi, hl, ij_HR) (fun n => rfl) ?_
  refine ij_idiv rfl (b0) ?_
  exact ij_ret 1 (some (.int (((a0 - (f111 a0 (hi 78 6) hi hl)) / (hi 78 6))))) (ij_SH, hi, hl, ij_HR) (fun n => rfl) (q0)
set_option maxRecDepth 10000 in
-- ScaleForgeModel.sharps(I)I
theorem s236_77 {N : Nat} {xs : Nat → Int32} {hi : Nat → Nat → Int32} {hl : Nat → Nat → Int64} {Q : Option Value → ij_H → Prop} (a0 : Int32) (b0 : ¬ ((lg_cmp (a0 : Int32).toInt64 (Int64.ofNat 18446744073709551556)) < 0) → ¬ ((0 : Int32) < (lg_cmp (a0 : Int32).toInt64 (Int64.ofNat 60))) → ¬ ((hi 78 6) = 0)) (q0 : ((lg_cmp (a0 : Int32).toInt64 (Int64.ofNat 18446744073709551556)) < 0) → Q (some (.int ((-1)))) (ij_SH, (ij_ui hi 77 1 1), hl, ij_HR)) (q1 : ¬ ((lg_cmp (a0 : Int32).toInt64 (Int64.ofNat 18446744073709551556)) < 0) → ((0 : Int32) < (lg_cmp (a0 : Int32).toInt64 (Int64.ofNat 60))) → Q (some (.int ((-1)))) (ij_SH, (ij_ui hi 77 1 1), hl, ij_HR)) (q2 : ¬ ((lg_cmp (a0 : Int32).toInt64 (Int64.ofNat 18446744073709551556)) < 0) → ¬ ((0 : Int32) < (lg_cmp (a0 : Int32).toInt64 (Int64.ofNat 60))) → Q (some (.int (((a0 - (f111 a0 (hi 78 6) hi hl)) / (hi 78 6))))) (ij_SH, (ij_ui hi 77 1 0), hl, ij_HR)) : ij_R (ij_xt N xs) 236 0 [some (.ref 77), some (.int a0)] [] (ij_SH, hi, hl, ij_HR) Q := by
  refine ij_call 5 149 [some (.long ((a0 : Int32).toInt64)), none, some (.long ((Int64.ofNat 18446744073709551556))), none, some (.long ((Int64.ofNat 60))), none] [] 11 [some (.ref 77), some (.int a0)] (ij_SH, hi, hl, ij_HR) (fun n => rfl) (s149 (a0 : Int32).toInt64 (Int64.ofNat 18446744073709551556) (Int64.ofNat 60) (fun c1 => ?_) (fun c2 c3 => ?_) (fun c4 c5 => ?_))
  · skip
    refine ij_call 4 98 [some (.ref 77), some (.int (1))] [] 31 [some (.ref 77), some (.int a0)] (ij_SH, hi, hl, ij_HR) (fun n => rfl) (s98_77 1 ?_)
    -- back
    exact ij_ret 1 (some (.int ((-1)))) (ij_SH, (ij_ui hi 77 1 1), hl, ij_HR) (fun n => rfl) (q0 c1)
  · skip
    refine ij_call 4 98 [some (.ref 77), some (.int (1))] [] 31 [some (.ref 77), some (.int a0)] (ij_SH, hi, hl, ij_HR) (fun n => rfl) (s98_77 1 ?_)
    -- back
    exact ij_ret 1 (some (.int ((-1)))) (ij_SH, (ij_ui hi 77 1 1), hl, ij_HR) (fun n => rfl) (q1 c2 c3)
  · skip
    refine ij_call 5 235 [some (.ref 77), some (.int a0)] [.ref 77] 20 [some (.ref 77), some (.int a0)] (ij_SH, hi, hl, ij_HR) (fun n => rfl) (s235_77 a0 (b0 c4 c5) ?_)
    -- back
    refine ij_call 1 115 [some (.ref 77), some (.int (((a0 - (f111 a0 (hi 78 6) hi hl)) / (hi 78 6))))] [] 23 [some (.ref 77), some (.int a0)] (ij_SH, hi, hl, ij_HR) (fun n => rfl) (s115_77 ((a0 - (f111 a0 (hi 78 6) hi hl)) / (hi 78 6)) ?_)
    -- back
    exact ij_ret 2 (some (.int (((a0 - (f111 a0 (hi 78 6) hi hl)) / (hi 78 6))))) (ij_SH, (ij_ui hi 77 1 0), hl, ij_HR) (fun n => rfl) (q2 c4 c5)
set_option maxRecDepth 10000 in
-- ScaleForge.named(II)I
theorem s237_0 {N : Nat} {xs : Nat → Int32} {hi : Nat → Nat → Int32} {hl : Nat → Nat → Int64} {Q : Option Value → ij_H → Prop} (a0 : Int32) (a1 : Int32) (q0 : (a0 < 0) → Q (some (.int ((-1)))) (ij_SH, (ij_ui hi 0 0 1), hl, ij_HR)) (q1 : ¬ (a0 < 0) → ((f135_23 6 hi hl) ≤ a0) → Q (some (.int ((-1)))) (ij_SH, (ij_ui hi 0 0 1), hl, ij_HR)) (q2 : ¬ (a0 < 0) → ¬ ((f135_23 6 hi hl) ≤ a0) → (a1 < (-9)) → Q (some (.int ((-1)))) (ij_SH, (ij_ui hi 0 0 1), hl, ij_HR)) (q3 : ¬ (a0 < 0) → ¬ ((f135_23 6 hi hl) ≤ a0) → ¬ (a1 < (-9)) → (a1 ≤ 9) → Q (some (.int ((f5_23 ((hi 24 5) + ((((a1 * (f135_23 6 hi hl)) + a0) - (hi 24 4)) * (hi 24 2))) hi hl)))) (ij_SH, (ij_ui hi 0 0 0), hl, ij_HR)) (q4 : ¬ (a0 < 0) → ¬ ((f135_23 6 hi hl) ≤ a0) → ¬ (a1 < (-9)) → ¬ (a1 ≤ 9) → Q (some (.int ((-1)))) (ij_SH, (ij_ui hi 0 0 1), hl, ij_HR)) : ij_R (ij_xt N xs) 237 0 [some (.ref 0), some (.int a0), some (.int a1), none] [] (ij_SH, hi, hl, ij_HR) Q := by
  refine ij_call 4 135 [some (.ref 23), some (.int (6))] [] 9 [some (.ref 0), some (.int a0), some (.int a1), none] (ij_SH, hi, hl, ij_HR) (fun n => rfl) (t135_23 6 ?_)
  -- back
  refine ij_br 3 (a0 < 0) 31 14 [some (.ref 0), some (.int a0), some (.int a1), some (.int ((f135_23 6 hi hl)))] [] (ij_SH, hi, hl, ij_HR) (fun n => rfl) (fun c1 => ?_) (fun c1 => ?_)
  · skip
    refine ij_call 3 44 [some (.ref 0), some (.int (1))] [] 36 [some (.ref 0), some (.int a0), some (.int a1), some (.int ((f135_23 6 hi hl)))] (ij_SH, hi, hl, ij_HR) (fun n => rfl) (s44_0 1 ?_)
    -- back
    exact ij_ret 1 (some (.int ((-1)))) (ij_SH, (ij_ui hi 0 0 1), hl, ij_HR) (fun n => rfl) (q0 c1)
  · skip
    refine ij_br 3 ((f135_23 6 hi hl) ≤ a0) 31 19 [some (.ref 0), some (.int a0), some (.int a1), some (.int ((f135_23 6 hi hl)))] [] (ij_SH, hi, hl, ij_HR) (fun n => rfl) (fun c2 => ?_) (fun c2 => ?_)
    · skip
      refine ij_call 3 44 [some (.ref 0), some (.int (1))] [] 36 [some (.ref 0), some (.int a0), some (.int a1), some (.int ((f135_23 6 hi hl)))] (ij_SH, hi, hl, ij_HR) (fun n => rfl) (s44_0 1 ?_)
      -- back
      exact ij_ret 1 (some (.int ((-1)))) (ij_SH, (ij_ui hi 0 0 1), hl, ij_HR) (fun n => rfl) (q1 c1 c2)
    · skip
      refine ij_br 3 (a1 < (-9)) 31 25 [some (.ref 0), some (.int a0), some (.int a1), some (.int ((f135_23 6 hi hl)))] [] (ij_SH, hi, hl, ij_HR) (fun n => rfl) (fun c3 => ?_) (fun c3 => ?_)
      · skip
        refine ij_call 3 44 [some (.ref 0), some (.int (1))] [] 36 [some (.ref 0), some (.int a0), some (.int a1), some (.int ((f135_23 6 hi hl)))] (ij_SH, hi, hl, ij_HR) (fun n => rfl) (s44_0 1 ?_)
        -- back
        exact ij_ret 1 (some (.int ((-1)))) (ij_SH, (ij_ui hi 0 0 1), hl, ij_HR) (fun n => rfl) (q2 c1 c2 c3)
      · skip
        refine ij_br 3 (a1 ≤ 9) 37 31 [some (.ref 0), some (.int a0), some (.int a1), some (.int ((f135_23 6 hi hl)))] [] (ij_SH, hi, hl, ij_HR) (fun n => rfl) (fun c4 => ?_) (fun c4 => ?_)
        · skip
          refine ij_call 9 147 [some (.ref 23), some (.int (((a1 * (f135_23 6 hi hl)) + a0)))] [.ref 0] 50 [some (.ref 0), some (.int a0), some (.int a1), some (.int ((f135_23 6 hi hl)))] (ij_SH, hi, hl, ij_HR) (fun n => rfl) (s147_23 ((a1 * (f135_23 6 hi hl)) + a0) ?_)
          -- back
          refine ij_call 1 90 [some (.ref 0), some (.int ((f5_23 ((hi 24 5) + ((((a1 * (f135_23 6 hi hl)) + a0) - (hi 24 4)) * (hi 24 2))) hi hl)))] [] 53 [some (.ref 0), some (.int a0), some (.int a1), some (.int ((f135_23 6 hi hl)))] (ij_SH, hi, hl, ij_HR) (fun n => rfl) (s90_0 (f5_23 ((hi 24 5) + ((((a1 * (f135_23 6 hi hl)) + a0) - (hi 24 4)) * (hi 24 2))) hi hl) ?_)
          -- back
          exact ij_ret 1 (some (.int ((f5_23 ((hi 24 5) + ((((a1 * (f135_23 6 hi hl)) + a0) - (hi 24 4)) * (hi 24 2))) hi hl)))) (ij_SH, (ij_ui hi 0 0 0), hl, ij_HR) (fun n => rfl) (q3 c1 c2 c3 c4)
        · skip
          refine ij_call 3 44 [some (.ref 0), some (.int (1))] [] 36 [some (.ref 0), some (.int a0), some (.int a1), some (.int ((f135_23 6 hi hl)))] (ij_SH, hi, hl, ij_HR) (fun n => rfl) (s44_0 1 ?_)
          -- back
          exact ij_ret 1 (some (.int ((-1)))) (ij_SH, (ij_ui hi 0 0 1), hl, ij_HR) (fun n => rfl) (q4 c1 c2 c3 c4)
set_option maxRecDepth 10000 in
-- ScaleForgeModel.named(II)I
theorem s238_77 {N : Nat} {xs : Nat → Int32} {hi : Nat → Nat → Int32} {hl : Nat → Nat → Int64} {Q : Option Value → ij_H → Prop} (a0 : Int32) (a1 : Int32) (b0 : ¬ ((lg_cmp (a0 : Int32).toInt64 0) < 0) → ¬ ((0 : Int32) < (lg_cmp (a0 : Int32).toInt64 (((hi 78 6) : Int32).toInt64 - 1))) → ¬ ((lg_cmp (a1 : Int32).toInt64 (Int64.ofNat 18446744073709551607)) < 0) → ¬ ((0 : Int32) < (lg_cmp (a1 : Int32).toInt64 (Int64.ofNat 9))) → ¬ ((hi 78 1) = 0)) (q0 : ((lg_cmp (a0 : Int32).toInt64 0) < 0) → Q (some (.int ((-1)))) (ij_SH, (ij_ui hi 77 1 1), hl, ij_HR)) (q1 : ¬ ((lg_cmp (a0 : Int32).toInt64 0) < 0) → ((0 : Int32) < (lg_cmp (a0 : Int32).toInt64 (((hi 78 6) : Int32).toInt64 - 1))) → Q (some (.int ((-1)))) (ij_SH, (ij_ui hi 77 1 1), hl, ij_HR)) (q2 : ¬ ((lg_cmp (a0 : Int32).toInt64 0) < 0) → ¬ ((0 : Int32) < (lg_cmp (a0 : Int32).toInt64 (((hi 78 6) : Int32).toInt64 - 1))) → ((lg_cmp (a1 : Int32).toInt64 (Int64.ofNat 18446744073709551607)) < 0) → Q (some (.int ((-1)))) (ij_SH, (ij_ui hi 77 1 1), hl, ij_HR)) (q3 : ¬ ((lg_cmp (a0 : Int32).toInt64 0) < 0) → ¬ ((0 : Int32) < (lg_cmp (a0 : Int32).toInt64 (((hi 78 6) : Int32).toInt64 - 1))) → ¬ ((lg_cmp (a1 : Int32).toInt64 (Int64.ofNat 18446744073709551607)) < 0) → ((0 : Int32) < (lg_cmp (a1 : Int32).toInt64 (Int64.ofNat 9))) → Q (some (.int ((-1)))) (ij_SH, (ij_ui hi 77 1 1), hl, ij_HR)) (q4 : ¬ ((lg_cmp (a0 : Int32).toInt64 0) < 0) → ¬ ((0 : Int32) < (lg_cmp (a0 : Int32).toInt64 (((hi 78 6) : Int32).toInt64 - 1))) → ¬ ((lg_cmp (a1 : Int32).toInt64 (Int64.ofNat 18446744073709551607)) < 0) → ¬ ((0 : Int32) < (lg_cmp (a1 : Int32).toInt64 (Int64.ofNat 9))) → Q (some (.int ((f111 ((hi 78 5) + ((((a1 * (hi 78 6)) + a0) - (hi 78 4)) * (hi 78 2))) (hi 78 1) hi hl)))) (ij_SH, (ij_ui hi 77 1 0), hl, ij_HR)) : ij_R (ij_xt N xs) 238 0 [some (.ref 77), some (.int a0), some (.int a1)] [] (ij_SH, hi, hl, ij_HR) Q := by
  refine ij_call 11 149 [some (.long ((a0 : Int32).toInt64)), none, some (.long (0)), none, some (.long ((((hi 78 6) : Int32).toInt64 - 1))), none] [] 16 [some (.ref 77), some (.int a0), some (.int a1)] (ij_SH, hi, hl, ij_HR) (fun n => rfl) (s149 (a0 : Int32).toInt64 0 (((hi 78 6) : Int32).toInt64 - 1) (fun c1 => ?_) (fun c2 c3 => ?_) (fun c4 c5 => ?_))
  · skip
    refine ij_call 4 98 [some (.ref 77), some (.int (1))] [] 38 [some (.ref 77), some (.int a0), some (.int a1)] (ij_SH, hi, hl, ij_HR) (fun n => rfl) (s98_77 1 ?_)
    -- back
    exact ij_ret 1 (some (.int ((-1)))) (ij_SH, (ij_ui hi 77 1 1), hl, ij_HR) (fun n => rfl) (q0 c1)
  · skip
    refine ij_call 4 98 [some (.ref 77), some (.int (1))] [] 38 [some (.ref 77), some (.int a0), some (.int a1)] (ij_SH, hi, hl, ij_HR) (fun n => rfl) (s98_77 1 ?_)
    -- back
    exact ij_ret 1 (some (.int ((-1)))) (ij_SH, (ij_ui hi 77 1 1), hl, ij_HR) (fun n => rfl) (q1 c2 c3)
  · skip
    refine ij_call 6 149 [some (.long ((a1 : Int32).toInt64)), none, some (.long ((Int64.ofNat 18446744073709551607))), none, some (.long ((Int64.ofNat 9))), none] [] 30 [some (.ref 77), some (.int a0), some (.int a1)] (ij_SH, hi, hl, ij_HR) (fun n => rfl) (s149 (a1 : Int32).toInt64 (Int64.ofNat 18446744073709551607) (Int64.ofNat 9) (fun c6 => ?_) (fun c7 c8 => ?_) (fun c9 c10 => ?_))
    · skip
      refine ij_call 4 98 [some (.ref 77), some (.int (1))] [] 38 [some (.ref 77), some (.int a0), some (.int a1)] (ij_SH, hi, hl, ij_HR) (fun n => rfl) (s98_77 1 ?_)
      -- back
      exact ij_ret 1 (some (.int ((-1)))) (ij_SH, (ij_ui hi 77 1 1), hl, ij_HR) (fun n => rfl) (q2 c4 c5 c6)
    · skip
      refine ij_call 4 98 [some (.ref 77), some (.int (1))] [] 38 [some (.ref 77), some (.int a0), some (.int a1)] (ij_SH, hi, hl, ij_HR) (fun n => rfl) (s98_77 1 ?_)
      -- back
      exact ij_ret 1 (some (.int ((-1)))) (ij_SH, (ij_ui hi 77 1 1), hl, ij_HR) (fun n => rfl) (q3 c4 c5 c7 c8)
    · skip
      refine ij_call 16 112 [some (.ref 77), some (.int (((a1 * (hi 78 6)) + a0))), some (.int ((hi 78 2)))] [.ref 77] 61 [some (.ref 77), some (.int a0), some (.int a1)] (ij_SH, hi, hl, ij_HR) (fun n => rfl) (s112_77 ((a1 * (hi 78 6)) + a0) (hi 78 2) (b0 c4 c5 c9 c10) ?_)
      -- back
      refine ij_call 1 115 [some (.ref 77), some (.int ((f111 ((hi 78 5) + ((((a1 * (hi 78 6)) + a0) - (hi 78 4)) * (hi 78 2))) (hi 78 1) hi hl)))] [] 64 [some (.ref 77), some (.int a0), some (.int a1)] (ij_SH, hi, hl, ij_HR) (fun n => rfl) (s115_77 (f111 ((hi 78 5) + ((((a1 * (hi 78 6)) + a0) - (hi 78 4)) * (hi 78 2))) (hi 78 1) hi hl) ?_)
      -- back
      exact ij_ret 1 (some (.int ((f111 ((hi 78 5) + ((((a1 * (hi 78 6)) + a0) - (hi 78 4)) * (hi 78 2))) (hi 78 1) hi hl)))) (ij_SH, (ij_ui hi 77 1 0), hl, ij_HR) (fun n => rfl) (q4 c4 c5 c9 c10)
set_option maxRecDepth 10000 in
-- java/lang/Math.abs(I)I
theorem s239 {N : Nat} {xs : Nat → Int32} {hi : Nat → Nat → Int32} {hl : Nat → Nat → Int64} {Q : Option Value → ij_H → Prop} (a0 : Int32) (q0 : ((0 : Int32) ≤ a0) → Q (some (.int a0)) (ij_SH, hi, hl, ij_HR)) (q1 : ¬ ((0 : Int32) ≤ a0) → Q (some (.int ((-a0)))) (ij_SH, hi, hl, ij_HR)) : ij_R (ij_xt N xs) 239 0 [some (.int a0)] [] (ij_SH, hi, hl, ij_HR) Q := by
  refine ij_br 2 ((0 : Int32) ≤ a0) 9 4 [some (.int a0)] [] (ij_SH, hi, hl, ij_HR) (fun n => rfl) (fun c1 => ?_) (fun c1 => ?_)
  · skip
    exact ij_ret 2 (some (.int a0)) (ij_SH, hi, hl, ij_HR) (fun n => rfl) (q0 c1)
  · skip
    exact ij_ret 4 (some (.int ((-a0)))) (ij_SH, hi, hl, ij_HR) (fun n => rfl) (q1 c1)
def f239 (a0 : Int32) (hi : Nat → Nat → Int32) (hl : Nat → Nat → Int64) : Int32 := if (0 : Int32) ≤ a0 then (a0) else ((-a0))
theorem t239 {N : Nat} {xs : Nat → Int32} {hi : Nat → Nat → Int32} {hl : Nat → Nat → Int64} {Q : Option Value → ij_H → Prop} (a0 : Int32) (q : Q (some (.int (f239 a0 hi hl))) (ij_SH, hi, hl, ij_HR)) : ij_R (ij_xt N xs) 239 0 [some (.int a0)] [] (ij_SH, hi, hl, ij_HR) Q :=
  s239 a0 (fun k0 => by rw [f239, if_pos k0] at q; exact q) (fun k0 => by rw [f239, if_neg k0] at q; exact q)
set_option maxRecDepth 10000 in
-- ScaleForge$Scale.toneOfKey(II)I
theorem s245_23 {N : Nat} {xs : Nat → Int32} {hi : Nat → Nat → Int32} {hl : Nat → Nat → Int64} {Q : Option Value → ij_H → Prop} (a0 : Int32) (a1 : Int32) (q0 : Q (some (.int ((f5_23 ((a0 * (hi 24 7)) + (a1 * (hi 24 8))) hi hl)))) (ij_SH, hi, hl, ij_HR)) : ij_R (ij_xt N xs) 245 0 [some (.ref 23), some (.int a0), some (.int a1)] [] (ij_SH, hi, hl, ij_HR) Q := by
  refine ij_call 15 5 [some (.ref 23), some (.int (((a0 * (hi 24 7)) + (a1 * (hi 24 8))))), none] [] 23 [some (.ref 23), some (.int a0), some (.int a1)] (ij_SH, hi, hl, ij_HR) (fun n => rfl) (t5_23 ((a0 * (hi 24 7)) + (a1 * (hi 24 8))) ?_)
  -- back
  exact ij_ret 1 (some (.int ((f5_23 ((a0 * (hi 24 7)) + (a1 * (hi 24 8))) hi hl)))) (ij_SH, hi, hl, ij_HR) (fun n => rfl) (q0)
set_option maxRecDepth 10000 in
-- ScaleForge$Scale.toneOfKey(II)I
theorem s245_44 {N : Nat} {xs : Nat → Int32} {hi : Nat → Nat → Int32} {hl : Nat → Nat → Int64} {Q : Option Value → ij_H → Prop} (a0 : Int32) (a1 : Int32) (q0 : Q (some (.int ((f5_44 ((a0 * (hi 45 7)) + (a1 * (hi 45 8))) hi hl)))) (ij_SH, hi, hl, ij_HR)) : ij_R (ij_xt N xs) 245 0 [some (.ref 44), some (.int a0), some (.int a1)] [] (ij_SH, hi, hl, ij_HR) Q := by
  refine ij_call 15 5 [some (.ref 44), some (.int (((a0 * (hi 45 7)) + (a1 * (hi 45 8))))), none] [] 23 [some (.ref 44), some (.int a0), some (.int a1)] (ij_SH, hi, hl, ij_HR) (fun n => rfl) (t5_44 ((a0 * (hi 45 7)) + (a1 * (hi 45 8))) ?_)
  -- back
  exact ij_ret 1 (some (.int ((f5_44 ((a0 * (hi 45 7)) + (a1 * (hi 45 8))) hi hl)))) (ij_SH, hi, hl, ij_HR) (fun n => rfl) (q0)
set_option maxRecDepth 10000 in
-- ScaleForge$Scale.toneOfKey(II)I
theorem s245_13 {N : Nat} {xs : Nat → Int32} {hi : Nat → Nat → Int32} {hl : Nat → Nat → Int64} {Q : Option Value → ij_H → Prop} (a0 : Int32) (a1 : Int32) (q0 : Q (some (.int ((f5_13 ((a0 * (hi 14 7)) + (a1 * (hi 14 8))) hi hl)))) (ij_SH, hi, hl, ij_HR)) : ij_R (ij_xt N xs) 245 0 [some (.ref 13), some (.int a0), some (.int a1)] [] (ij_SH, hi, hl, ij_HR) Q := by
  refine ij_call 15 5 [some (.ref 13), some (.int (((a0 * (hi 14 7)) + (a1 * (hi 14 8))))), none] [] 23 [some (.ref 13), some (.int a0), some (.int a1)] (ij_SH, hi, hl, ij_HR) (fun n => rfl) (t5_13 ((a0 * (hi 14 7)) + (a1 * (hi 14 8))) ?_)
  -- back
  exact ij_ret 1 (some (.int ((f5_13 ((a0 * (hi 14 7)) + (a1 * (hi 14 8))) hi hl)))) (ij_SH, hi, hl, ij_HR) (fun n => rfl) (q0)
set_option maxRecDepth 10000 in
-- ScaleForge.keyTone(II)I
theorem s246_0 {N : Nat} {xs : Nat → Int32} {hi : Nat → Nat → Int32} {hl : Nat → Nat → Int64} {Q : Option Value → ij_H → Prop} (a0 : Int32) (a1 : Int32) (q0 : (a0 < 0) → Q (some (.int ((-1)))) (ij_SH, (ij_ui hi 0 0 1), hl, ij_HR)) (q1 : ¬ (a0 < 0) → (12 ≤ a0) → Q (some (.int ((-1)))) (ij_SH, (ij_ui hi 0 0 1), hl, ij_HR)) (q2 : ¬ (a0 < 0) → ¬ (12 ≤ a0) → (a1 < 0) → Q (some (.int ((-1)))) (ij_SH, (ij_ui hi 0 0 1), hl, ij_HR)) (q3 : ¬ (a0 < 0) → ¬ (12 ≤ a0) → ¬ (a1 < 0) → (a1 < 6) → Q (some (.int ((f5_23 ((a0 * (hi 24 7)) + (a1 * (hi 24 8))) hi hl)))) (ij_SH, (ij_ui hi 0 0 0), hl, ij_HR)) (q4 : ¬ (a0 < 0) → ¬ (12 ≤ a0) → ¬ (a1 < 0) → ¬ (a1 < 6) → Q (some (.int ((-1)))) (ij_SH, (ij_ui hi 0 0 1), hl, ij_HR)) : ij_R (ij_xt N xs) 246 0 [some (.ref 0), some (.int a0), some (.int a1)] [] (ij_SH, hi, hl, ij_HR) Q := by
  refine ij_br 2 (a0 < 0) 20 4 [some (.ref 0), some (.int a0), some (.int a1)] [] (ij_SH, hi, hl, ij_HR) (fun n => rfl) (fun c1 => ?_) (fun c1 => ?_)
  · skip
    refine ij_call 3 44 [some (.ref 0), some (.int (1))] [] 25 [some (.ref 0), some (.int a0), some (.int a1)] (ij_SH, hi, hl, ij_HR) (fun n => rfl) (s44_0 1 ?_)
    -- back
    exact ij_ret 1 (some (.int ((-1)))) (ij_SH, (ij_ui hi 0 0 1), hl, ij_HR) (fun n => rfl) (q0 c1)
  · skip
    refine ij_br 3 (12 ≤ a0) 20 10 [some (.ref 0), some (.int a0), some (.int a1)] [] (ij_SH, hi, hl, ij_HR) (fun n => rfl) (fun c2 => ?_) (fun c2 => ?_)
    · skip
      refine ij_call 3 44 [some (.ref 0), some (.int (1))] [] 25 [some (.ref 0), some (.int a0), some (.int a1)] (ij_SH, hi, hl, ij_HR) (fun n => rfl) (s44_0 1 ?_)
      -- back
      exact ij_ret 1 (some (.int ((-1)))) (ij_SH, (ij_ui hi 0 0 1), hl, ij_HR) (fun n => rfl) (q1 c1 c2)
    · skip
      refine ij_br 2 (a1 < 0) 20 14 [some (.ref 0), some (.int a0), some (.int a1)] [] (ij_SH, hi, hl, ij_HR) (fun n => rfl) (fun c3 => ?_) (fun c3 => ?_)
      · skip
        refine ij_call 3 44 [some (.ref 0), some (.int (1))] [] 25 [some (.ref 0), some (.int a0), some (.int a1)] (ij_SH, hi, hl, ij_HR) (fun n => rfl) (s44_0 1 ?_)
        -- back
        exact ij_ret 1 (some (.int ((-1)))) (ij_SH, (ij_ui hi 0 0 1), hl, ij_HR) (fun n => rfl) (q2 c1 c2 c3)
      · skip
        refine ij_br 3 (a1 < 6) 26 20 [some (.ref 0), some (.int a0), some (.int a1)] [] (ij_SH, hi, hl, ij_HR) (fun n => rfl) (fun c4 => ?_) (fun c4 => ?_)
        · skip
          refine ij_call 6 245 [some (.ref 23), some (.int a0), some (.int a1)] [.ref 0] 36 [some (.ref 0), some (.int a0), some (.int a1)] (ij_SH, hi, hl, ij_HR) (fun n => rfl) (s245_23 a0 a1 ?_)
          -- back
          refine ij_call 1 90 [some (.ref 0), some (.int ((f5_23 ((a0 * (hi 24 7)) + (a1 * (hi 24 8))) hi hl)))] [] 39 [some (.ref 0), some (.int a0), some (.int a1)] (ij_SH, hi, hl, ij_HR) (fun n => rfl) (s90_0 (f5_23 ((a0 * (hi 24 7)) + (a1 * (hi 24 8))) hi hl) ?_)
          -- back
          exact ij_ret 1 (some (.int ((f5_23 ((a0 * (hi 24 7)) + (a1 * (hi 24 8))) hi hl)))) (ij_SH, (ij_ui hi 0 0 0), hl, ij_HR) (fun n => rfl) (q3 c1 c2 c3 c4)
        · skip
          refine ij_call 3 44 [some (.ref 0), some (.int (1))] [] 25 [some (.ref 0), some (.int a0), some (.int a1)] (ij_SH, hi, hl, ij_HR) (fun n => rfl) (s44_0 1 ?_)
          -- back
          exact ij_ret 1 (some (.int ((-1)))) (ij_SH, (ij_ui hi 0 0 1), hl, ij_HR) (fun n => rfl) (q4 c1 c2 c3 c4)
set_option maxRecDepth 10000 in
-- ScaleForgeModel.toneOfKey(I)I
theorem s247_77 {N : Nat} {xs : Nat → Int32} {hi : Nat → Nat → Int32} {hl : Nat → Nat → Int64} {Q : Option Value → ij_H → Prop} (a0 : Int32) (b0 : ¬ ((hi 78 1) = 0)) (q0 : Q (some (.int ((f111 (((a0 / 6) * (hi 78 7)) + ((a0 - a0 / 6 * 6) * (hi 78 8))) (hi 78 1) hi hl)))) (ij_SH, hi, hl, ij_HR)) : ij_R (ij_xt N xs) 247 0 [some (.ref 77), some (.int a0)] [] (ij_SH, hi, hl, ij_HR) Q := by
  refine ij_call 22 111 [some (.int ((((a0 / 6) * (hi 78 7)) + ((a0 - a0 / 6 * 6) * (hi 78 8))))), some (.int ((hi 78 1))), none] [] 34 [some (.ref 77), some (.int a0)] (ij_SH, hi, hl, ij_HR) (fun n => rfl) (t111 (((a0 / 6) * (hi 78 7)) + ((a0 - a0 / 6 * 6) * (hi 78 8))) (hi 78 1) (b0) ?_)
  -- back
  exact ij_ret 1 (some (.int ((f111 (((a0 / 6) * (hi 78 7)) + ((a0 - a0 / 6 * 6) * (hi 78 8))) (hi 78 1) hi hl)))) (ij_SH, hi, hl, ij_HR) (fun n => rfl) (q0)
set_option maxRecDepth 10000 in
-- ScaleForgeModel.keyTone(II)I
theorem s248_77 {N : Nat} {xs : Nat → Int32} {hi : Nat → Nat → Int32} {hl : Nat → Nat → Int64} {Q : Option Value → ij_H → Prop} (a0 : Int32) (a1 : Int32) (b0 : ¬ ((lg_cmp (a0 : Int32).toInt64 0) < 0) → ¬ ((0 : Int32) < (lg_cmp (a0 : Int32).toInt64 (Int64.ofNat 11))) → ¬ ((lg_cmp (a1 : Int32).toInt64 0) < 0) → ¬ ((0 : Int32) < (lg_cmp (a1 : Int32).toInt64 (Int64.ofNat 5))) → ¬ ((hi 78 1) = 0)) (q0 : ((lg_cmp (a0 : Int32).toInt64 0) < 0) → Q (some (.int ((-1)))) (ij_SH, (ij_ui hi 77 1 1), hl, ij_HR)) (q1 : ¬ ((lg_cmp (a0 : Int32).toInt64 0) < 0) → ((0 : Int32) < (lg_cmp (a0 : Int32).toInt64 (Int64.ofNat 11))) → Q (some (.int ((-1)))) (ij_SH, (ij_ui hi 77 1 1), hl, ij_HR)) (q2 : ¬ ((lg_cmp (a0 : Int32).toInt64 0) < 0) → ¬ ((0 : Int32) < (lg_cmp (a0 : Int32).toInt64 (Int64.ofNat 11))) → ((lg_cmp (a1 : Int32).toInt64 0) < 0) → Q (some (.int ((-1)))) (ij_SH, (ij_ui hi 77 1 1), hl, ij_HR)) (q3 : ¬ ((lg_cmp (a0 : Int32).toInt64 0) < 0) → ¬ ((0 : Int32) < (lg_cmp (a0 : Int32).toInt64 (Int64.ofNat 11))) → ¬ ((lg_cmp (a1 : Int32).toInt64 0) < 0) → ((0 : Int32) < (lg_cmp (a1 : Int32).toInt64 (Int64.ofNat 5))) → Q (some (.int ((-1)))) (ij_SH, (ij_ui hi 77 1 1), hl, ij_HR)) (q4 : ¬ ((lg_cmp (a0 : Int32).toInt64 0) < 0) → ¬ ((0 : Int32) < (lg_cmp (a0 : Int32).toInt64 (Int64.ofNat 11))) → ¬ ((lg_cmp (a1 : Int32).toInt64 0) < 0) → ¬ ((0 : Int32) < (lg_cmp (a1 : Int32).toInt64 (Int64.ofNat 5))) → Q (some (.int ((f111 (((((6 * a0) + a1) / 6) * (hi 78 7)) + ((((6 * a0) + a1) - ((6 * a0) + a1) / 6 * 6) * (hi 78 8))) (hi 78 1) hi hl)))) (ij_SH, (ij_ui hi 77 1 0), hl, ij_HR)) : ij_R (ij_xt N xs) 248 0 [some (.ref 77), some (.int a0), some (.int a1)] [] (ij_SH, hi, hl, ij_HR) Q := by
  refine ij_call 5 149 [some (.long ((a0 : Int32).toInt64)), none, some (.long (0)), none, some (.long ((Int64.ofNat 11))), none] [] 9 [some (.ref 77), some (.int a0), some (.int a1)] (ij_SH, hi, hl, ij_HR) (fun n => rfl) (s149 (a0 : Int32).toInt64 0 (Int64.ofNat 11) (fun c1 => ?_) (fun c2 c3 => ?_) (fun c4 c5 => ?_))
  · skip
    refine ij_call 4 98 [some (.ref 77), some (.int (1))] [] 46 [some (.ref 77), some (.int a0), some (.int a1)] (ij_SH, hi, hl, ij_HR) (fun n => rfl) (s98_77 1 ?_)
    -- back
    exact ij_ret 1 (some (.int ((-1)))) (ij_SH, (ij_ui hi 77 1 1), hl, ij_HR) (fun n => rfl) (q0 c1)
  · skip
    refine ij_call 4 98 [some (.ref 77), some (.int (1))] [] 46 [some (.ref 77), some (.int a0), some (.int a1)] (ij_SH, hi, hl, ij_HR) (fun n => rfl) (s98_77 1 ?_)
    -- back
    exact ij_ret 1 (some (.int ((-1)))) (ij_SH, (ij_ui hi 77 1 1), hl, ij_HR) (fun n => rfl) (q1 c2 c3)
  · skip
    refine ij_call 6 149 [some (.long ((a1 : Int32).toInt64)), none, some (.long (0)), none, some (.long ((Int64.ofNat 5))), none] [] 21 [some (.ref 77), some (.int a0), some (.int a1)] (ij_SH, hi, hl, ij_HR) (fun n => rfl) (s149 (a1 : Int32).toInt64 0 (Int64.ofNat 5) (fun c6 => ?_) (fun c7 c8 => ?_) (fun c9 c10 => ?_))
    · skip
      refine ij_call 4 98 [some (.ref 77), some (.int (1))] [] 46 [some (.ref 77), some (.int a0), some (.int a1)] (ij_SH, hi, hl, ij_HR) (fun n => rfl) (s98_77 1 ?_)
      -- back
      exact ij_ret 1 (some (.int ((-1)))) (ij_SH, (ij_ui hi 77 1 1), hl, ij_HR) (fun n => rfl) (q2 c4 c5 c6)
    · skip
      refine ij_call 4 98 [some (.ref 77), some (.int (1))] [] 46 [some (.ref 77), some (.int a0), some (.int a1)] (ij_SH, hi, hl, ij_HR) (fun n => rfl) (s98_77 1 ?_)
      -- back
      exact ij_ret 1 (some (.int ((-1)))) (ij_SH, (ij_ui hi 77 1 1), hl, ij_HR) (fun n => rfl) (q3 c4 c5 c7 c8)
    · skip
      refine ij_call 9 247 [some (.ref 77), some (.int (((6 * a0) + a1)))] [.ref 77] 35 [some (.ref 77), some (.int a0), some (.int a1)] (ij_SH, hi, hl, ij_HR) (fun n => rfl) (s247_77 ((6 * a0) + a1) (b0 c4 c5 c9 c10) ?_)
      -- back
      refine ij_call 1 115 [some (.ref 77), some (.int ((f111 (((((6 * a0) + a1) / 6) * (hi 78 7)) + ((((6 * a0) + a1) - ((6 * a0) + a1) / 6 * 6) * (hi 78 8))) (hi 78 1) hi hl)))] [] 38 [some (.ref 77), some (.int a0), some (.int a1)] (ij_SH, hi, hl, ij_HR) (fun n => rfl) (s115_77 (f111 (((((6 * a0) + a1) / 6) * (hi 78 7)) + ((((6 * a0) + a1) - ((6 * a0) + a1) / 6 * 6) * (hi 78 8))) (hi 78 1) hi hl) ?_)
      -- back
      exact ij_ret 2 (some (.int ((f111 (((((6 * a0) + a1) / 6) * (hi 78 7)) + ((((6 * a0) + a1) - ((6 * a0) + a1) / 6 * 6) * (hi 78 8))) (hi 78 1) hi hl)))) (ij_SH, (ij_ui hi 77 1 0), hl, ij_HR) (fun n => rfl) (q4 c4 c5 c9 c10)
set_option maxRecDepth 10000 in
-- ScaleForge.fit()I
theorem s258_0 {N : Nat} {xs : Nat → Int32} {hi : Nat → Nat → Int32} {hl : Nat → Nat → Int64} {Q : Option Value → ij_H → Prop} (q0 : Q (some (.int ((ij_pc ((hl 23 3) &&& (hl 23 4)))))) (ij_SH, (ij_ui hi 0 0 0), hl, ij_HR)) : ij_R (ij_xt N xs) 258 0 [some (.ref 0)] [] (ij_SH, hi, hl, ij_HR) Q := by
  refine ij_call 4 189 [some (.ref 23)] [.ref 0] 8 [some (.ref 0)] (ij_SH, hi, hl, ij_HR) (fun n => rfl) (s189_23  ?_)
  -- back
  refine ij_call 1 90 [some (.ref 0), some (.int ((ij_pc ((hl 23 3) &&& (hl 23 4)))))] [] 11 [some (.ref 0)] (ij_SH, hi, hl, ij_HR) (fun n => rfl) (s90_0 (ij_pc ((hl 23 3) &&& (hl 23 4))) ?_)
  -- back
  exact ij_ret 1 (some (.int ((ij_pc ((hl 23 3) &&& (hl 23 4)))))) (ij_SH, (ij_ui hi 0 0 0), hl, ij_HR) (fun n => rfl) (q0)
set_option maxRecDepth 10000 in
-- java/lang/Math.max(II)I
theorem s270 {N : Nat} {xs : Nat → Int32} {hi : Nat → Nat → Int32} {hl : Nat → Nat → Int64} {Q : Option Value → ij_H → Prop} (a0 : Int32) (a1 : Int32) (q0 : (a0 < a1) → Q (some (.int a1)) (ij_SH, hi, hl, ij_HR)) (q1 : ¬ (a0 < a1) → Q (some (.int a0)) (ij_SH, hi, hl, ij_HR)) : ij_R (ij_xt N xs) 270 0 [some (.int a0), some (.int a1)] [] (ij_SH, hi, hl, ij_HR) Q := by
  refine ij_br 3 (a0 < a1) 9 5 [some (.int a0), some (.int a1)] [] (ij_SH, hi, hl, ij_HR) (fun n => rfl) (fun c1 => ?_) (fun c1 => ?_)
  · skip
    exact ij_ret 2 (some (.int a1)) (ij_SH, hi, hl, ij_HR) (fun n => rfl) (q0 c1)
  · skip
    exact ij_ret 3 (some (.int a0)) (ij_SH, hi, hl, ij_HR) (fun n => rfl) (q1 c1)
def f270 (a0 : Int32) (a1 : Int32) (hi : Nat → Nat → Int32) (hl : Nat → Nat → Int64) : Int32 := if a0 < a1 then (a1) else (a0)
theorem t270 {N : Nat} {xs : Nat → Int32} {hi : Nat → Nat → Int32} {hl : Nat → Nat → Int64} {Q : Option Value → ij_H → Prop} (a0 : Int32) (a1 : Int32) (q : Q (some (.int (f270 a0 a1 hi hl))) (ij_SH, hi, hl, ij_HR)) : ij_R (ij_xt N xs) 270 0 [some (.int a0), some (.int a1)] [] (ij_SH, hi, hl, ij_HR) Q :=
  s270 a0 a1 (fun k0 => by rw [f270, if_pos k0] at q; exact q) (fun k0 => by rw [f270, if_neg k0] at q; exact q)
set_option maxRecDepth 10000 in
-- ScaleForge$Walk.apart(II)I
theorem s276_35 {N : Nat} {xs : Nat → Int32} {hi : Nat → Nat → Int32} {hl : Nat → Nat → Int64} {Q : Option Value → ij_H → Prop} (a0 : Int32) (a1 : Int32) (q0 : (a0 < 0) → Q (some (.int ((f95 0 ((hi 35 4) - 0) hi hl)))) (ij_SH, hi, hl, ij_HR)) (q1 : ¬ (a0 < 0) → (7 ≤ a0) → Q (some (.int ((f95 0 ((hi 35 4) - 0) hi hl)))) (ij_SH, hi, hl, ij_HR)) (q2 : ¬ (a0 < 0) → ¬ (7 ≤ a0) → (a1 < 0) → Q (some (.int ((f95 0 ((hi 35 4) - 0) hi hl)))) (ij_SH, hi, hl, ij_HR)) (q3 : ¬ (a0 < 0) → ¬ (7 ≤ a0) → ¬ (a1 < 0) → (7 ≤ a1) → Q (some (.int ((f95 0 ((hi 35 4) - 0) hi hl)))) (ij_SH, hi, hl, ij_HR)) (q4 : ¬ (a0 < 0) → ¬ (7 ≤ a0) → ¬ (a1 < 0) → ¬ (7 ≤ a1) → Q (some (.int ((f95 (f239 ((hi 36 (a0).toNatClampNeg) - (hi 36 (a1).toNatClampNeg)) hi hl) ((hi 35 4) - (f239 ((hi 36 (a0).toNatClampNeg) - (hi 36 (a1).toNatClampNeg)) hi hl)) hi hl)))) (ij_SH, hi, hl, ij_HR)) : ij_R (ij_xt N xs) 276 0 [some (.ref 35), some (.int a0), some (.int a1), none, none] [] (ij_SH, hi, hl, ij_HR) Q := by
  refine ij_br 2 (a0 < 0) 24 4 [some (.ref 35), some (.int a0), some (.int a1), none, none] [] (ij_SH, hi, hl, ij_HR) (fun n => rfl) (fun c1 => ?_) (fun c1 => ?_)
  · skip
    refine ij_call 12 95 [some (.int (0)), some (.int (((hi 35 4) - 0)))] [] 64 [some (.ref 35), some (.int a0), some (.int a1), some (.int (0)), some (.int (0))] (ij_SH, hi, hl, ij_HR) (fun n => rfl) (t95 0 ((hi 35 4) - 0) ?_)
    -- back
    exact ij_ret 1 (some (.int ((f95 0 ((hi 35 4) - 0) hi hl)))) (ij_SH, hi, hl, ij_HR) (fun n => rfl) (q0 c1)
  · skip
    refine ij_br 3 (7 ≤ a0) 24 10 [some (.ref 35), some (.int a0), some (.int a1), none, none] [] (ij_SH, hi, hl, ij_HR) (fun n => rfl) (fun c2 => ?_) (fun c2 => ?_)
    · skip
      refine ij_call 12 95 [some (.int (0)), some (.int (((hi 35 4) - 0)))] [] 64 [some (.ref 35), some (.int a0), some (.int a1), some (.int (0)), some (.int (0))] (ij_SH, hi, hl, ij_HR) (fun n => rfl) (t95 0 ((hi 35 4) - 0) ?_)
      -- back
      exact ij_ret 1 (some (.int ((f95 0 ((hi 35 4) - 0) hi hl)))) (ij_SH, hi, hl, ij_HR) (fun n => rfl) (q1 c1 c2)
    · skip
      refine ij_br 2 (a1 < 0) 24 14 [some (.ref 35), some (.int a0), some (.int a1), none, none] [] (ij_SH, hi, hl, ij_HR) (fun n => rfl) (fun c3 => ?_) (fun c3 => ?_)
      · skip
        refine ij_call 12 95 [some (.int (0)), some (.int (((hi 35 4) - 0)))] [] 64 [some (.ref 35), some (.int a0), some (.int a1), some (.int (0)), some (.int (0))] (ij_SH, hi, hl, ij_HR) (fun n => rfl) (t95 0 ((hi 35 4) - 0) ?_)
        -- back
        exact ij_ret 1 (some (.int ((f95 0 ((hi 35 4) - 0) hi hl)))) (ij_SH, hi, hl, ij_HR) (fun n => rfl) (q2 c1 c2 c3)
      · skip
        refine ij_br 3 (7 ≤ a1) 24 20 [some (.ref 35), some (.int a0), some (.int a1), none, none] [] (ij_SH, hi, hl, ij_HR) (fun n => rfl) (fun c4 => ?_) (fun c4 => ?_)
        · skip
          refine ij_call 12 95 [some (.int (0)), some (.int (((hi 35 4) - 0)))] [] 64 [some (.ref 35), some (.int a0), some (.int a1), some (.int (0)), some (.int (0))] (ij_SH, hi, hl, ij_HR) (fun n => rfl) (t95 0 ((hi 35 4) - 0) ?_)
          -- back
          exact ij_ret 1 (some (.int ((f95 0 ((hi 35 4) - 0) hi hl)))) (ij_SH, hi, hl, ij_HR) (fun n => rfl) (q3 c1 c2 c3 c4)
        · skip
          refine ij_go 8 35 [some (.ref 35), some (.int a0), some (.int a1), some (.int (1)), none] [.int a0, .ref 36] (ij_SH, hi, hl, ij_HR) (fun n => rfl) ?_
          refine ij_ial rfl rfl rfl (ij_bd c1 (Int32.not_le.mp c2) (by decide)) ?_
          refine ij_go 3 41 [some (.ref 35), some (.int a0), some (.int a1), some (.int (1)), none] [.int a1, .ref 36, .int ((hi 36 (a0).toNatClampNeg))] (ij_SH, hi, hl, ij_HR) (fun n => rfl) ?_
          refine ij_ial rfl rfl rfl (ij_bd c3 (Int32.not_le.mp c4) (by decide)) ?_
          refine ij_call 2 239 [some (.int (((hi 36 (a0).toNatClampNeg) - (hi 36 (a1).toNatClampNeg))))] [] 46 [some (.ref 35), some (.int a0), some (.int a1), some (.int (1)), none] (ij_SH, hi, hl, ij_HR) (fun n => rfl) (t239 ((hi 36 (a0).toNatClampNeg) - (hi 36 (a1).toNatClampNeg)) ?_)
          -- back
          refine ij_call 8 95 [some (.int ((f239 ((hi 36 (a0).toNatClampNeg) - (hi 36 (a1).toNatClampNeg)) hi hl))), some (.int (((hi 35 4) - (f239 ((hi 36 (a0).toNatClampNeg) - (hi 36 (a1).toNatClampNeg)) hi hl))))] [] 64 [some (.ref 35), some (.int a0), some (.int a1), some (.int (1)), some (.int ((f239 ((hi 36 (a0).toNatClampNeg) - (hi 36 (a1).toNatClampNeg)) hi hl)))] (ij_SH, hi, hl, ij_HR) (fun n => rfl) (t95 (f239 ((hi 36 (a0).toNatClampNeg) - (hi 36 (a1).toNatClampNeg)) hi hl) ((hi 35 4) - (f239 ((hi 36 (a0).toNatClampNeg) - (hi 36 (a1).toNatClampNeg)) hi hl)) ?_)
          -- back
          exact ij_ret 1 (some (.int ((f95 (f239 ((hi 36 (a0).toNatClampNeg) - (hi 36 (a1).toNatClampNeg)) hi hl) ((hi 35 4) - (f239 ((hi 36 (a0).toNatClampNeg) - (hi 36 (a1).toNatClampNeg)) hi hl)) hi hl)))) (ij_SH, hi, hl, ij_HR) (fun n => rfl) (q4 c1 c2 c3 c4)
def f276_35 (a0 : Int32) (a1 : Int32) (hi : Nat → Nat → Int32) (hl : Nat → Nat → Int64) : Int32 := if a0 < 0 then ((f95 0 ((hi 35 4) - 0) hi hl)) else (if 7 ≤ a0 then ((f95 0 ((hi 35 4) - 0) hi hl)) else (if a1 < 0 then ((f95 0 ((hi 35 4) - 0) hi hl)) else (if 7 ≤ a1 then ((f95 0 ((hi 35 4) - 0) hi hl)) else ((f95 (f239 ((hi 36 (a0).toNatClampNeg) - (hi 36 (a1).toNatClampNeg)) hi hl) ((hi 35 4) - (f239 ((hi 36 (a0).toNatClampNeg) - (hi 36 (a1).toNatClampNeg)) hi hl)) hi hl)))))
theorem t276_35 {N : Nat} {xs : Nat → Int32} {hi : Nat → Nat → Int32} {hl : Nat → Nat → Int64} {Q : Option Value → ij_H → Prop} (a0 : Int32) (a1 : Int32) (q : Q (some (.int (f276_35 a0 a1 hi hl))) (ij_SH, hi, hl, ij_HR)) : ij_R (ij_xt N xs) 276 0 [some (.ref 35), some (.int a0), some (.int a1), none, none] [] (ij_SH, hi, hl, ij_HR) Q :=
  s276_35 a0 a1 (fun k0 => by rw [f276_35, if_pos k0] at q; exact q) (fun k0 k1 => by rw [f276_35, if_neg k0, if_pos k1] at q; exact q) (fun k0 k1 k2 => by rw [f276_35, if_neg k0, if_neg k1, if_pos k2] at q; exact q) (fun k0 k1 k2 k3 => by rw [f276_35, if_neg k0, if_neg k1, if_neg k2, if_pos k3] at q; exact q) (fun k0 k1 k2 k3 => by rw [f276_35, if_neg k0, if_neg k1, if_neg k2, if_neg k3] at q; exact q)
set_option maxRecDepth 10000 in
-- ScaleForge$Walk.getToGo(II)I
theorem s277_35 {N : Nat} {xs : Nat → Int32} {hi : Nat → Nat → Int32} {hl : Nat → Nat → Int64} {Q : Option Value → ij_H → Prop} (a0 : Int32) (a1 : Int32) (q0 : (((a0 * 7) + a1) < 0) → Q (some (.int (0))) (ij_SH, hi, hl, ij_HR)) (q1 : ¬ (((a0 * 7) + a1) < 0) → (896 ≤ ((a0 * 7) + a1)) → Q (some (.int (0))) (ij_SH, hi, hl, ij_HR)) (q2 : ¬ (((a0 * 7) + a1) < 0) → ¬ (896 ≤ ((a0 * 7) + a1)) → Q (some (.int ((hi 38 (((a0 * 7) + a1)).toNatClampNeg)))) (ij_SH, hi, hl, ij_HR)) : ij_R (ij_xt N xs) 277 0 [some (.ref 35), some (.int a0), some (.int a1), none] [] (ij_SH, hi, hl, ij_HR) Q := by
  refine ij_br 8 (((a0 * 7) + a1) < 0) 29 11 [some (.ref 35), some (.int a0), some (.int a1), some (.int (((a0 * 7) + a1)))] [] (ij_SH, hi, hl, ij_HR) (fun n => rfl) (fun c1 => ?_) (fun c1 => ?_)
  · skip
    exact ij_ret 2 (some (.int (0))) (ij_SH, hi, hl, ij_HR) (fun n => rfl) (q0 c1)
  · skip
    refine ij_br 5 (896 ≤ ((a0 * 7) + a1)) 29 20 [some (.ref 35), some (.int a0), some (.int a1), some (.int (((a0 * 7) + a1)))] [] (ij_SH, hi, hl, ij_HR) (fun n => rfl) (fun c2 => ?_) (fun c2 => ?_)
    · skip
      exact ij_ret 2 (some (.int (0))) (ij_SH, hi, hl, ij_HR) (fun n => rfl) (q1 c1 c2)
    · skip
      refine ij_go 3 25 [some (.ref 35), some (.int a0), some (.int a1), some (.int (((a0 * 7) + a1)))] [.int (((a0 * 7) + a1)), .ref 38] (ij_SH, hi, hl, ij_HR) (fun n => rfl) ?_
      refine ij_ial rfl rfl rfl (ij_bd c1 (Int32.not_le.mp c2) (by decide)) ?_
      exact ij_ret 2 (some (.int ((hi 38 (((a0 * 7) + a1)).toNatClampNeg)))) (ij_SH, hi, hl, ij_HR) (fun n => rfl) (q2 c1 c2)
def f277_35 (a0 : Int32) (a1 : Int32) (hi : Nat → Nat → Int32) (hl : Nat → Nat → Int64) : Int32 := if ((a0 * 7) + a1) < 0 then (0) else (if 896 ≤ ((a0 * 7) + a1) then (0) else ((hi 38 (((a0 * 7) + a1)).toNatClampNeg)))
theorem t277_35 {N : Nat} {xs : Nat → Int32} {hi : Nat → Nat → Int32} {hl : Nat → Nat → Int64} {Q : Option Value → ij_H → Prop} (a0 : Int32) (a1 : Int32) (q : Q (some (.int (f277_35 a0 a1 hi hl))) (ij_SH, hi, hl, ij_HR)) : ij_R (ij_xt N xs) 277 0 [some (.ref 35), some (.int a0), some (.int a1), none] [] (ij_SH, hi, hl, ij_HR) Q :=
  s277_35 a0 a1 (fun k0 => by rw [f277_35, if_pos k0] at q; exact q) (fun k0 k1 => by rw [f277_35, if_neg k0, if_pos k1] at q; exact q) (fun k0 k1 => by rw [f277_35, if_neg k0, if_neg k1] at q; exact q)
set_option maxRecDepth 10000 in
-- ScaleForge$Walk.farBy(III)I
theorem s278_35 {N : Nat} {xs : Nat → Int32} {hi : Nat → Nat → Int32} {hl : Nat → Nat → Int64} {Q : Option Value → ij_H → Prop} (a0 : Int32) (a1 : Int32) (a2 : Int32) (q0 : Q (some (.int (((f276_35 a1 a2 hi hl) + (f277_35 (a0 ||| (1 <<< (a2 &&& 31))) a2 hi hl))))) (ij_SH, hi, hl, ij_HR)) : ij_R (ij_xt N xs) 278 0 [some (.ref 35), some (.int a0), some (.int a1), some (.int a2)] [] (ij_SH, hi, hl, ij_HR) Q := by
  refine ij_call 4 276 [some (.ref 35), some (.int a1), some (.int a2), none, none] [] 6 [some (.ref 35), some (.int a0), some (.int a1), some (.int a2)] (ij_SH, hi, hl, ij_HR) (fun n => rfl) (t276_35 a1 a2 ?_)
  -- back
  refine ij_call 8 277 [some (.ref 35), some (.int ((a0 ||| (1 <<< (a2 &&& 31))))), some (.int a2), none] [.int ((f276_35 a1 a2 hi hl))] 16 [some (.ref 35), some (.int a0), some (.int a1), some (.int a2)] (ij_SH, hi, hl, ij_HR) (fun n => rfl) (t277_35 (a0 ||| (1 <<< (a2 &&& 31))) a2 ?_)
  -- back
  exact ij_ret 2 (some (.int (((f276_35 a1 a2 hi hl) + (f277_35 (a0 ||| (1 <<< (a2 &&& 31))) a2 hi hl))))) (ij_SH, hi, hl, ij_HR) (fun n => rfl) (q0)
set_option maxRecDepth 10000 in
-- ScaleForge$Walk.setToGo(III)V
theorem s280_35 {N : Nat} {xs : Nat → Int32} {hi : Nat → Nat → Int32} {hl : Nat → Nat → Int64} {Q : Option Value → ij_H → Prop} (a0 : Int32) (a1 : Int32) (a2 : Int32) (q0 : (((a0 * 7) + a1) < 0) → Q (none) (ij_SH, hi, hl, ij_HR)) (q1 : ¬ (((a0 * 7) + a1) < 0) → (896 ≤ ((a0 * 7) + a1)) → Q (none) (ij_SH, hi, hl, ij_HR)) (q2 : ¬ (((a0 * 7) + a1) < 0) → ¬ (896 ≤ ((a0 * 7) + a1)) → Q (none) (ij_SH, (ij_ui hi 38 (((a0 * 7) + a1)).toNatClampNeg a2), hl, ij_HR)) : ij_R (ij_xt N xs) 280 0 [some (.ref 35), some (.int a0), some (.int a1), some (.int a2), none] [] (ij_SH, hi, hl, ij_HR) Q := by
  refine ij_br 8 (((a0 * 7) + a1) < 0) 31 13 [some (.ref 35), some (.int a0), some (.int a1), some (.int a2), some (.int (((a0 * 7) + a1)))] [] (ij_SH, hi, hl, ij_HR) (fun n => rfl) (fun c1 => ?_) (fun c1 => ?_)
  · skip
    exact ij_ret 1 (none) (ij_SH, hi, hl, ij_HR) (fun n => rfl) (q0 c1)
  · skip
    refine ij_br 5 (896 ≤ ((a0 * 7) + a1)) 31 23 [some (.ref 35), some (.int a0), some (.int a1), some (.int a2), some (.int (((a0 * 7) + a1)))] [] (ij_SH, hi, hl, ij_HR) (fun n => rfl) (fun c2 => ?_) (fun c2 => ?_)
    · skip
      exact ij_ret 1 (none) (ij_SH, hi, hl, ij_HR) (fun n => rfl) (q1 c1 c2)
    · skip
      refine ij_go 4 30 [some (.ref 35), some (.int a0), some (.int a1), some (.int a2), some (.int (((a0 * 7) + a1)))] [.int a2, .int (((a0 * 7) + a1)), .ref 38] (ij_SH, hi, hl, ij_HR) (fun n => rfl) ?_
      refine ij_ias rfl rfl rfl (ij_bd c1 (Int32.not_le.mp c2) (by decide)) ?_
      exact ij_ret 1 (none) (ij_SH, (ij_ui hi 38 (((a0 * 7) + a1)).toNatClampNeg a2), hl, ij_HR) (fun n => rfl) (q2 c1 c2)
set_option maxRecDepth 10000 in
-- ScaleForge$Walk.length()I
theorem s283_35 {N : Nat} {xs : Nat → Int32} {hi : Nat → Nat → Int32} {hl : Nat → Nat → Int64} {Q : Option Value → ij_H → Prop} (q0 : (2 ≤ (hi 35 3)) → Q (some (.int ((f277_35 1 0 hi hl)))) (ij_SH, hi, hl, ij_HR)) (q1 : ¬ (2 ≤ (hi 35 3)) → Q (some (.int (0))) (ij_SH, hi, hl, ij_HR)) : ij_R (ij_xt N xs) 283 0 [some (.ref 35)] [] (ij_SH, hi, hl, ij_HR) Q := by
  refine ij_br 4 (2 ≤ (hi 35 3)) 12 8 [some (.ref 35)] [] (ij_SH, hi, hl, ij_HR) (fun n => rfl) (fun c1 => ?_) (fun c1 => ?_)
  · skip
    refine ij_call 4 277 [some (.ref 35), some (.int (1)), some (.int (0)), none] [] 18 [some (.ref 35)] (ij_SH, hi, hl, ij_HR) (fun n => rfl) (t277_35 1 0 ?_)
    -- back
    exact ij_ret 1 (some (.int ((f277_35 1 0 hi hl)))) (ij_SH, hi, hl, ij_HR) (fun n => rfl) (q0 c1)
  · skip
    exact ij_ret 3 (some (.int (0))) (ij_SH, hi, hl, ij_HR) (fun n => rfl) (q1 c1)
def f283_35 (hi : Nat → Nat → Int32) (hl : Nat → Nat → Int64) : Int32 := if 2 ≤ (hi 35 3) then ((f277_35 1 0 hi hl)) else (0)
theorem t283_35 {N : Nat} {xs : Nat → Int32} {hi : Nat → Nat → Int32} {hl : Nat → Nat → Int64} {Q : Option Value → ij_H → Prop} (q : Q (some (.int (f283_35 hi hl))) (ij_SH, hi, hl, ij_HR)) : ij_R (ij_xt N xs) 283 0 [some (.ref 35)] [] (ij_SH, hi, hl, ij_HR) Q :=
  s283_35 (fun k0 => by rw [f283_35, if_pos k0] at q; exact q) (fun k0 => by rw [f283_35, if_neg k0] at q; exact q)
set_option maxRecDepth 10000 in
-- ScaleForgeModel.apart(II)I
theorem s286_77 {N : Nat} {xs : Nat → Int32} {hi : Nat → Nat → Int32} {hl : Nat → Nat → Int64} {Q : Option Value → ij_H → Prop} (a0 : Int32) (a1 : Int32) (b0 : ¬ ((hi 78 1) = 0)) (q0 : Q (some (.int ((f95 (f111 (a0 - a1) (hi 78 1) hi hl) (f111 (a1 - a0) (hi 78 1) hi hl) hi hl)))) (ij_SH, hi, hl, ij_HR)) : ij_R (ij_xt N xs) 286 0 [some (.ref 77), some (.int a0), some (.int a1)] [] (ij_SH, hi, hl, ij_HR) Q := by
  refine ij_call 8 111 [some (.int ((a0 - a1))), some (.int ((hi 78 1))), none] [] 12 [some (.ref 77), some (.int a0), some (.int a1)] (ij_SH, hi, hl, ij_HR) (fun n => rfl) (t111 (a0 - a1) (hi 78 1) (b0) ?_)
  -- back
  refine ij_call 8 111 [some (.int ((a1 - a0))), some (.int ((hi 78 1))), none] [.int ((f111 (a0 - a1) (hi 78 1) hi hl))] 24 [some (.ref 77), some (.int a0), some (.int a1)] (ij_SH, hi, hl, ij_HR) (fun n => rfl) (t111 (a1 - a0) (hi 78 1) (b0) ?_)
  -- back
  refine ij_call 1 95 [some (.int ((f111 (a0 - a1) (hi 78 1) hi hl))), some (.int ((f111 (a1 - a0) (hi 78 1) hi hl)))] [] 27 [some (.ref 77), some (.int a0), some (.int a1)] (ij_SH, hi, hl, ij_HR) (fun n => rfl) (t95 (f111 (a0 - a1) (hi 78 1) hi hl) (f111 (a1 - a0) (hi 78 1) hi hl) ?_)
  -- back
  exact ij_ret 1 (some (.int ((f95 (f111 (a0 - a1) (hi 78 1) hi hl) (f111 (a1 - a0) (hi 78 1) hi hl) hi hl)))) (ij_SH, hi, hl, ij_HR) (fun n => rfl) (q0)
set_option maxRecDepth 10000 in
-- ScaleForge$Walk.stopAt(I)I
theorem s289_35 {N : Nat} {xs : Nat → Int32} {hi : Nat → Nat → Int32} {hl : Nat → Nat → Int64} {Q : Option Value → ij_H → Prop} (a0 : Int32) (q0 : (a0 < 0) → Q (some (.int ((-1)))) (ij_SH, hi, hl, ij_HR)) (q1 : ¬ (a0 < 0) → ((hi 35 3) ≤ a0) → Q (some (.int ((-1)))) (ij_SH, hi, hl, ij_HR)) (q2 : ¬ (a0 < 0) → ¬ ((hi 35 3) ≤ a0) → (7 ≤ a0) → Q (some (.int ((-1)))) (ij_SH, hi, hl, ij_HR)) (q3 : ¬ (a0 < 0) → ¬ ((hi 35 3) ≤ a0) → ¬ (7 ≤ a0) → Q (some (.int ((hi 37 (a0).toNatClampNeg)))) (ij_SH, hi, hl, ij_HR)) : ij_R (ij_xt N xs) 289 0 [some (.ref 35), some (.int a0)] [] (ij_SH, hi, hl, ij_HR) Q := by
  refine ij_br 2 (a0 < 0) 30 4 [some (.ref 35), some (.int a0)] [] (ij_SH, hi, hl, ij_HR) (fun n => rfl) (fun c1 => ?_) (fun c1 => ?_)
  · skip
    exact ij_ret 2 (some (.int ((-1)))) (ij_SH, hi, hl, ij_HR) (fun n => rfl) (q0 c1)
  · skip
    refine ij_br 4 ((hi 35 3) ≤ a0) 30 12 [some (.ref 35), some (.int a0)] [] (ij_SH, hi, hl, ij_HR) (fun n => rfl) (fun c2 => ?_) (fun c2 => ?_)
    · skip
      exact ij_ret 2 (some (.int ((-1)))) (ij_SH, hi, hl, ij_HR) (fun n => rfl) (q1 c1 c2)
    · skip
      refine ij_br 5 (7 ≤ a0) 30 21 [some (.ref 35), some (.int a0)] [] (ij_SH, hi, hl, ij_HR) (fun n => rfl) (fun c3 => ?_) (fun c3 => ?_)
      · skip
        exact ij_ret 2 (some (.int ((-1)))) (ij_SH, hi, hl, ij_HR) (fun n => rfl) (q2 c1 c2 c3)
      · skip
        refine ij_go 3 26 [some (.ref 35), some (.int a0)] [.int a0, .ref 37] (ij_SH, hi, hl, ij_HR) (fun n => rfl) ?_
        refine ij_ial rfl rfl rfl (ij_bd c1 (Int32.not_le.mp c3) (by decide)) ?_
        exact ij_ret 2 (some (.int ((hi 37 (a0).toNatClampNeg)))) (ij_SH, hi, hl, ij_HR) (fun n => rfl) (q3 c1 c2 c3)
def f289_35 (a0 : Int32) (hi : Nat → Nat → Int32) (hl : Nat → Nat → Int64) : Int32 := if a0 < 0 then ((-1)) else (if (hi 35 3) ≤ a0 then ((-1)) else (if 7 ≤ a0 then ((-1)) else ((hi 37 (a0).toNatClampNeg))))
theorem t289_35 {N : Nat} {xs : Nat → Int32} {hi : Nat → Nat → Int32} {hl : Nat → Nat → Int64} {Q : Option Value → ij_H → Prop} (a0 : Int32) (q : Q (some (.int (f289_35 a0 hi hl))) (ij_SH, hi, hl, ij_HR)) : ij_R (ij_xt N xs) 289 0 [some (.ref 35), some (.int a0)] [] (ij_SH, hi, hl, ij_HR) Q :=
  s289_35 a0 (fun k0 => by rw [f289_35, if_pos k0] at q; exact q) (fun k0 k1 => by rw [f289_35, if_neg k0, if_pos k1] at q; exact q) (fun k0 k1 k2 => by rw [f289_35, if_neg k0, if_neg k1, if_pos k2] at q; exact q) (fun k0 k1 k2 => by rw [f289_35, if_neg k0, if_neg k1, if_neg k2] at q; exact q)
set_option maxRecDepth 10000 in
-- ScaleForge.isStepApart(II)Z
theorem s314_0 {N : Nat} {xs : Nat → Int32} {hi : Nat → Nat → Int32} {hl : Nat → Nat → Int64} {Q : Option Value → ij_H → Prop} (a0 : Int32) (a1 : Int32) (q0 : (a0 < 0) → Q (some (.int (0))) (ij_SH, hi, hl, ij_HR)) (q1 : ¬ (a0 < 0) → (64 ≤ a0) → Q (some (.int (0))) (ij_SH, hi, hl, ij_HR)) (q2 : ¬ (a0 < 0) → ¬ (64 ≤ a0) → ((lg_cmp ((((hl 23 4) : Int64).toUInt64 >>> ((a0 : Int32).toInt64.toUInt64 &&& Int64.toUInt64 63)).toInt64 &&& 1) 0) = 0) → Q (some (.int (0))) (ij_SH, hi, hl, ij_HR)) (q3 : ¬ (a0 < 0) → ¬ (64 ≤ a0) → ¬ ((lg_cmp ((((hl 23 4) : Int64).toUInt64 >>> ((a0 : Int32).toInt64.toUInt64 &&& Int64.toUInt64 63)).toInt64 &&& 1) 0) = 0) → (a1 < 0) → Q (some (.int (0))) (ij_SH, hi, hl, ij_HR)) (q4 : ¬ (a0 < 0) → ¬ (64 ≤ a0) → ¬ ((lg_cmp ((((hl 23 4) : Int64).toUInt64 >>> ((a0 : Int32).toInt64.toUInt64 &&& Int64.toUInt64 63)).toInt64 &&& 1) 0) = 0) → ¬ (a1 < 0) → (64 ≤ a1) → Q (some (.int (0))) (ij_SH, hi, hl, ij_HR)) (q5 : ¬ (a0 < 0) → ¬ (64 ≤ a0) → ¬ ((lg_cmp ((((hl 23 4) : Int64).toUInt64 >>> ((a0 : Int32).toInt64.toUInt64 &&& Int64.toUInt64 63)).toInt64 &&& 1) 0) = 0) → ¬ (a1 < 0) → ¬ (64 ≤ a1) → ((lg_cmp ((((hl 23 4) : Int64).toUInt64 >>> ((a1 : Int32).toInt64.toUInt64 &&& Int64.toUInt64 63)).toInt64 &&& 1) 0) = 0) → Q (some (.int (0))) (ij_SH, hi, hl, ij_HR)) (q6 : ¬ (a0 < 0) → ¬ (64 ≤ a0) → ¬ ((lg_cmp ((((hl 23 4) : Int64).toUInt64 >>> ((a0 : Int32).toInt64.toUInt64 &&& Int64.toUInt64 63)).toInt64 &&& 1) 0) = 0) → ¬ (a1 < 0) → ¬ (64 ≤ a1) → ¬ ((lg_cmp ((((hl 23 4) : Int64).toUInt64 >>> ((a1 : Int32).toInt64.toUInt64 &&& Int64.toUInt64 63)).toInt64 &&& 1) 0) = 0) → ((ij_pc (hl 23 4)) = 1) → Q (some (.int (1))) (ij_SH, hi, hl, ij_HR)) (q7 : ¬ (a0 < 0) → ¬ (64 ≤ a0) → ¬ ((lg_cmp ((((hl 23 4) : Int64).toUInt64 >>> ((a0 : Int32).toInt64.toUInt64 &&& Int64.toUInt64 63)).toInt64 &&& 1) 0) = 0) → ¬ (a1 < 0) → ¬ (64 ≤ a1) → ¬ ((lg_cmp ((((hl 23 4) : Int64).toUInt64 >>> ((a1 : Int32).toInt64.toUInt64 &&& Int64.toUInt64 63)).toInt64 &&& 1) 0) = 0) → ¬ ((ij_pc (hl 23 4)) = 1) → ((f239 ((ij_pc ((hl 23 4) &&& ((f6 a0 hi hl) - 1))) - (ij_pc ((hl 23 4) &&& ((f6 a1 hi hl) - 1)))) hi hl) = 1) → Q (some (.int (1))) (ij_SH, hi, hl, ij_HR)) (q8 : ¬ (a0 < 0) → ¬ (64 ≤ a0) → ¬ ((lg_cmp ((((hl 23 4) : Int64).toUInt64 >>> ((a0 : Int32).toInt64.toUInt64 &&& Int64.toUInt64 63)).toInt64 &&& 1) 0) = 0) → ¬ (a1 < 0) → ¬ (64 ≤ a1) → ¬ ((lg_cmp ((((hl 23 4) : Int64).toUInt64 >>> ((a1 : Int32).toInt64.toUInt64 &&& Int64.toUInt64 63)).toInt64 &&& 1) 0) = 0) → ¬ ((ij_pc (hl 23 4)) = 1) → ¬ ((f239 ((ij_pc ((hl 23 4) &&& ((f6 a0 hi hl) - 1))) - (ij_pc ((hl 23 4) &&& ((f6 a1 hi hl) - 1)))) hi hl) = 1) → ((f239 ((ij_pc ((hl 23 4) &&& ((f6 a0 hi hl) - 1))) - (ij_pc ((hl 23 4) &&& ((f6 a1 hi hl) - 1)))) hi hl) = ((ij_pc (hl 23 4)) - 1)) → Q (some (.int (1))) (ij_SH, hi, hl, ij_HR)) (q9 : ¬ (a0 < 0) → ¬ (64 ≤ a0) → ¬ ((lg_cmp ((((hl 23 4) : Int64).toUInt64 >>> ((a0 : Int32).toInt64.toUInt64 &&& Int64.toUInt64 63)).toInt64 &&& 1) 0) = 0) → ¬ (a1 < 0) → ¬ (64 ≤ a1) → ¬ ((lg_cmp ((((hl 23 4) : Int64).toUInt64 >>> ((a1 : Int32).toInt64.toUInt64 &&& Int64.toUInt64 63)).toInt64 &&& 1) 0) = 0) → ¬ ((ij_pc (hl 23 4)) = 1) → ¬ ((f239 ((ij_pc ((hl 23 4) &&& ((f6 a0 hi hl) - 1))) - (ij_pc ((hl 23 4) &&& ((f6 a1 hi hl) - 1)))) hi hl) = 1) → ¬ ((f239 ((ij_pc ((hl 23 4) &&& ((f6 a0 hi hl) - 1))) - (ij_pc ((hl 23 4) &&& ((f6 a1 hi hl) - 1)))) hi hl) = ((ij_pc (hl 23 4)) - 1)) → Q (some (.int (0))) (ij_SH, hi, hl, ij_HR)) : ij_R (ij_xt N xs) 314 0 [some (.ref 0), some (.int a0), some (.int a1), none, none] [] (ij_SH, hi, hl, ij_HR) Q := by
  refine ij_call 4 155 [some (.ref 23), some (.int a0)] [] 8 [some (.ref 0), some (.int a0), some (.int a1), none, none] (ij_SH, hi, hl, ij_HR) (fun n => rfl) (s155_23 a0 (fun c1 => ?_) (fun c2 c3 => ?_) (fun c4 c5 c6 => ?_) (fun c7 c8 c9 => ?_))
  · skip
    exact ij_ret 3 (some (.int (0))) (ij_SH, hi, hl, ij_HR) (fun n => rfl) (q0 c1)
  · skip
    exact ij_ret 3 (some (.int (0))) (ij_SH, hi, hl, ij_HR) (fun n => rfl) (q1 c2 c3)
  · skip
    exact ij_ret 3 (some (.int (0))) (ij_SH, hi, hl, ij_HR) (fun n => rfl) (q2 c4 c5 c6)
  · skip
    refine ij_call 5 155 [some (.ref 23), some (.int a1)] [] 19 [some (.ref 0), some (.int a0), some (.int a1), none, none] (ij_SH, hi, hl, ij_HR) (fun n => rfl) (s155_23 a1 (fun c10 => ?_) (fun c11 c12 => ?_) (fun c13 c14 c15 => ?_) (fun c16 c17 c18 => ?_))
    · skip
      exact ij_ret 3 (some (.int (0))) (ij_SH, hi, hl, ij_HR) (fun n => rfl) (q3 c7 c8 c9 c10)
    · skip
      exact ij_ret 3 (some (.int (0))) (ij_SH, hi, hl, ij_HR) (fun n => rfl) (q4 c7 c8 c9 c11 c12)
    · skip
      exact ij_ret 3 (some (.int (0))) (ij_SH, hi, hl, ij_HR) (fun n => rfl) (q5 c7 c8 c9 c13 c14 c15)
    · skip
      refine ij_call 4 89 [some (.ref 23)] [] 31 [some (.ref 0), some (.int a0), some (.int a1), none, none] (ij_SH, hi, hl, ij_HR) (fun n => rfl) (s89_23  ?_)
      -- back
      refine ij_call 4 156 [some (.ref 0), some (.int a0)] [] 37 [some (.ref 0), some (.int a0), some (.int a1), some (.int ((ij_pc (hl 23 4)))), none] (ij_SH, hi, hl, ij_HR) (fun n => rfl) (s156_0 a0 ?_)
      -- back
      refine ij_call 3 156 [some (.ref 0), some (.int a1)] [.int ((ij_pc ((hl 23 4) &&& ((f6 a0 hi hl) - 1))))] 42 [some (.ref 0), some (.int a0), some (.int a1), some (.int ((ij_pc (hl 23 4)))), none] (ij_SH, hi, hl, ij_HR) (fun n => rfl) (s156_0 a1 ?_)
      -- back
      refine ij_call 2 239 [some (.int (((ij_pc ((hl 23 4) &&& ((f6 a0 hi hl) - 1))) - (ij_pc ((hl 23 4) &&& ((f6 a1 hi hl) - 1))))))] [] 46 [some (.ref 0), some (.int a0), some (.int a1), some (.int ((ij_pc (hl 23 4)))), none] (ij_SH, hi, hl, ij_HR) (fun n => rfl) (t239 ((ij_pc ((hl 23 4) &&& ((f6 a0 hi hl) - 1))) - (ij_pc ((hl 23 4) &&& ((f6 a1 hi hl) - 1)))) ?_)
      -- back
      refine ij_br 4 ((ij_pc (hl 23 4)) = 1) 67 53 [some (.ref 0), some (.int a0), some (.int a1), some (.int ((ij_pc (hl 23 4)))), some (.int ((f239 ((ij_pc ((hl 23 4) &&& ((f6 a0 hi hl) - 1))) - (ij_pc ((hl 23 4) &&& ((f6 a1 hi hl) - 1)))) hi hl)))] [] (ij_SH, hi, hl, ij_HR) (fun n => rfl) (fun c19 => ?_) (fun c19 => ?_)
      · skip
        exact ij_ret 3 (some (.int (1))) (ij_SH, hi, hl, ij_HR) (fun n => rfl) (q6 c7 c8 c9 c16 c17 c18 c19)
      · skip
        refine ij_br 3 ((f239 ((ij_pc ((hl 23 4) &&& ((f6 a0 hi hl) - 1))) - (ij_pc ((hl 23 4) &&& ((f6 a1 hi hl) - 1)))) hi hl) = 1) 67 59 [some (.ref 0), some (.int a0), some (.int a1), some (.int ((ij_pc (hl 23 4)))), some (.int ((f239 ((ij_pc ((hl 23 4) &&& ((f6 a0 hi hl) - 1))) - (ij_pc ((hl 23 4) &&& ((f6 a1 hi hl) - 1)))) hi hl)))] [] (ij_SH, hi, hl, ij_HR) (fun n => rfl) (fun c20 => ?_) (fun c20 => ?_)
        · skip
          exact ij_ret 3 (some (.int (1))) (ij_SH, hi, hl, ij_HR) (fun n => rfl) (q7 c7 c8 c9 c16 c17 c18 c19 c20)
        · skip
          refine ij_br 5 ((f239 ((ij_pc ((hl 23 4) &&& ((f6 a0 hi hl) - 1))) - (ij_pc ((hl 23 4) &&& ((f6 a1 hi hl) - 1)))) hi hl) = ((ij_pc (hl 23 4)) - 1)) 67 71 [some (.ref 0), some (.int a0), some (.int a1), some (.int ((ij_pc (hl 23 4)))), some (.int ((f239 ((ij_pc ((hl 23 4) &&& ((f6 a0 hi hl) - 1))) - (ij_pc ((hl 23 4) &&& ((f6 a1 hi hl) - 1)))) hi hl)))] [] (ij_SH, hi, hl, ij_HR) (fun n => rfl) (fun c21 => ?_) (fun c21 => ?_)
          · skip
            exact ij_ret 3 (some (.int (1))) (ij_SH, hi, hl, ij_HR) (fun n => rfl) (q8 c7 c8 c9 c16 c17 c18 c19 c20 c21)
          · skip
            exact ij_ret 2 (some (.int (0))) (ij_SH, hi, hl, ij_HR) (fun n => rfl) (q9 c7 c8 c9 c16 c17 c18 c19 c20 c21)
set_option maxRecDepth 10000 in
-- ScaleForgeModel.areBeside(II)Z
theorem s316_77 {N : Nat} {xs : Nat → Int32} {hi : Nat → Nat → Int32} {hl : Nat → Nat → Int64} {Q : Option Value → ij_H → Prop} (a0 : Int32) (a1 : Int32) (b0 : ¬ (a0 < 0 ∨ 60 ≤ (a0 : Int32).toNatClampNeg)) (b1 : ¬ (a1 < 0 ∨ 60 ≤ (a1 : Int32).toNatClampNeg)) (b2 : ¬ ((hi 87 (a0).toNatClampNeg) = (-1)) → ¬ ((hi 87 (a1).toNatClampNeg) = (-1)) → ¬ ((hi 77 26) = 0)) (b3 : ¬ ((hi 87 (a0).toNatClampNeg) = (-1)) → ¬ ((hi 87 (a1).toNatClampNeg) = (-1)) → ¬ ((((hi 87 (a0).toNatClampNeg) + 1) - ((hi 87 (a0).toNatClampNeg) + 1) / (hi 77 26) * (hi 77 26)) = (hi 87 (a1).toNatClampNeg)) → ¬ ((hi 77 26) = 0)) (q0 : ((hi 87 (a0).toNatClampNeg) = (-1)) → Q (some (.int (0))) (ij_SH, hi, hl, ij_HR)) (q1 : ¬ ((hi 87 (a0).toNatClampNeg) = (-1)) → ((hi 87 (a1).toNatClampNeg) = (-1)) → Q (some (.int (0))) (ij_SH, hi, hl, ij_HR)) (q2 : ¬ ((hi 87 (a0).toNatClampNeg) = (-1)) → ¬ ((hi 87 (a1).toNatClampNeg) = (-1)) → ((((hi 87 (a0).toNatClampNeg) + 1) - ((hi 87 (a0).toNatClampNeg) + 1) / (hi 77 26) * (hi 77 26)) = (hi 87 (a1).toNatClampNeg)) → Q (some (.int (1))) (ij_SH, hi, hl, ij_HR)) (q3 : ¬ ((hi 87 (a0).toNatClampNeg) = (-1)) → ¬ ((hi 87 (a1).toNatClampNeg) = (-1)) → ¬ ((((hi 87 (a0).toNatClampNeg) + 1) - ((hi 87 (a0).toNatClampNeg) + 1) / (hi 77 26) * (hi 77 26)) = (hi 87 (a1).toNatClampNeg)) → ((((hi 87 (a1).toNatClampNeg) + 1) - ((hi 87 (a1).toNatClampNeg) + 1) / (hi 77 26) * (hi 77 26)) = (hi 87 (a0).toNatClampNeg)) → Q (some (.int (1))) (ij_SH, hi, hl, ij_HR)) (q4 : ¬ ((hi 87 (a0).toNatClampNeg) = (-1)) → ¬ ((hi 87 (a1).toNatClampNeg) = (-1)) → ¬ ((((hi 87 (a0).toNatClampNeg) + 1) - ((hi 87 (a0).toNatClampNeg) + 1) / (hi 77 26) * (hi 77 26)) = (hi 87 (a1).toNatClampNeg)) → ¬ ((((hi 87 (a1).toNatClampNeg) + 1) - ((hi 87 (a1).toNatClampNeg) + 1) / (hi 77 26) * (hi 77 26)) = (hi 87 (a0).toNatClampNeg)) → Q (some (.int (0))) (ij_SH, hi, hl, ij_HR)) : ij_R (ij_xt N xs) 316 0 [some (.ref 77), some (.int a0), some (.int a1), none, none] [] (ij_SH, hi, hl, ij_HR) Q := by
  refine ij_go 3 5 [some (.ref 77), some (.int a0), some (.int a1), none, none] [.int a0, .ref 87] (ij_SH, hi, hl, ij_HR) (fun n => rfl) ?_
  refine ij_ial rfl rfl rfl (b0) ?_
  refine ij_go 4 12 [some (.ref 77), some (.int a0), some (.int a1), some (.int ((hi 87 (a0).toNatClampNeg))), none] [.int a1, .ref 87] (ij_SH, hi, hl, ij_HR) (fun n => rfl) ?_
  refine ij_ial rfl rfl rfl (b1) ?_
  refine ij_br 4 ((hi 87 (a0).toNatClampNeg) = (-1)) 56 20 [some (.ref 77), some (.int a0), some (.int a1), some (.int ((hi 87 (a0).toNatClampNeg))), some (.int ((hi 87 (a1).toNatClampNeg)))] [] (ij_SH, hi, hl, ij_HR) (fun n => rfl) (fun c1 => ?_) (fun c1 => ?_)
  · skip
    exact ij_ret 2 (some (.int (0))) (ij_SH, hi, hl, ij_HR) (fun n => rfl) (q0 c1)
  · skip
    refine ij_br 3 ((hi 87 (a1).toNatClampNeg) = (-1)) 56 26 [some (.ref 77), some (.int a0), some (.int a1), some (.int ((hi 87 (a0).toNatClampNeg))), some (.int ((hi 87 (a1).toNatClampNeg)))] [] (ij_SH, hi, hl, ij_HR) (fun n => rfl) (fun c2 => ?_) (fun c2 => ?_)
    · skip
      exact ij_ret 2 (some (.int (0))) (ij_SH, hi, hl, ij_HR) (fun n => rfl) (q1 c1 c2)
    · skip
      refine ij_go 5 33 [some (.ref 77), some (.int a0), some (.int a1), some (.int ((hi 87 (a0).toNatClampNeg))), some (.int ((hi 87 (a1).toNatClampNeg)))] [.int ((hi 77 26)), .int (((hi 87 (a0).toNatClampNeg) + 1))] (ij_SH, hi, hl, ij_HR) (fun n => rfl) ?_
      refine ij_irem rfl (b2 c1 c2) ?_
      refine ij_br 2 ((((hi 87 (a0).toNatClampNeg) + 1) - ((hi 87 (a0).toNatClampNeg) + 1) / (hi 77 26) * (hi 77 26)) = (hi 87 (a1).toNatClampNeg)) 52 39 [some (.ref 77), some (.int a0), some (.int a1), some (.int ((hi 87 (a0).toNatClampNeg))), some (.int ((hi 87 (a1).toNatClampNeg)))] [] (ij_SH, hi, hl, ij_HR) (fun n => rfl) (fun c3 => ?_) (fun c3 => ?_)
      · skip
        exact ij_ret 3 (some (.int (1))) (ij_SH, hi, hl, ij_HR) (fun n => rfl) (q2 c1 c2 c3)
      · skip
        refine ij_go 5 47 [some (.ref 77), some (.int a0), some (.int a1), some (.int ((hi 87 (a0).toNatClampNeg))), some (.int ((hi 87 (a1).toNatClampNeg)))] [.int ((hi 77 26)), .int (((hi 87 (a1).toNatClampNeg) + 1))] (ij_SH, hi, hl, ij_HR) (fun n => rfl) ?_
        refine ij_irem rfl (b3 c1 c2 c3) ?_
        refine ij_br 2 ((((hi 87 (a1).toNatClampNeg) + 1) - ((hi 87 (a1).toNatClampNeg) + 1) / (hi 77 26) * (hi 77 26)) = (hi 87 (a0).toNatClampNeg)) 52 56 [some (.ref 77), some (.int a0), some (.int a1), some (.int ((hi 87 (a0).toNatClampNeg))), some (.int ((hi 87 (a1).toNatClampNeg)))] [] (ij_SH, hi, hl, ij_HR) (fun n => rfl) (fun c4 => ?_) (fun c4 => ?_)
        · skip
          exact ij_ret 3 (some (.int (1))) (ij_SH, hi, hl, ij_HR) (fun n => rfl) (q3 c1 c2 c3 c4)
        · skip
          exact ij_ret 2 (some (.int (0))) (ij_SH, hi, hl, ij_HR) (fun n => rfl) (q4 c1 c2 c3 c4)
set_option maxRecDepth 10000 in
-- ScaleForge$Life.innermost()I
theorem s318_40 {N : Nat} {xs : Nat → Int32} {hi : Nat → Nat → Int32} {hl : Nat → Nat → Int64} {Q : Option Value → ij_H → Prop} (b0 : ¬ ((hi 40 7) ≤ 0) → ¬ (3 < (hi 40 7)) → ¬ (((hi 40 7) - 1) < 0 ∨ 3 ≤ (((hi 40 7) - 1) : Int32).toNatClampNeg)) (q0 : ((hi 40 7) ≤ 0) → Q (some (.int ((-1)))) (ij_SH, hi, hl, ij_HR)) (q1 : ¬ ((hi 40 7) ≤ 0) → (3 < (hi 40 7)) → Q (some (.int ((-1)))) (ij_SH, hi, hl, ij_HR)) (q2 : ¬ ((hi 40 7) ≤ 0) → ¬ (3 < (hi 40 7)) → Q (some (.int ((hi 41 (((hi 40 7) - 1)).toNatClampNeg)))) (ij_SH, hi, hl, ij_HR)) : ij_R (ij_xt N xs) 318 0 [some (.ref 40)] [] (ij_SH, hi, hl, ij_HR) Q := by
  refine ij_br 3 ((hi 40 7) ≤ 0) 29 7 [some (.ref 40)] [] (ij_SH, hi, hl, ij_HR) (fun n => rfl) (fun c1 => ?_) (fun c1 => ?_)
  · skip
    exact ij_ret 2 (some (.int ((-1)))) (ij_SH, hi, hl, ij_HR) (fun n => rfl) (q0 c1)
  · skip
    refine ij_br 4 (3 < (hi 40 7)) 29 15 [some (.ref 40)] [] (ij_SH, hi, hl, ij_HR) (fun n => rfl) (fun c2 => ?_) (fun c2 => ?_)
    · skip
      exact ij_ret 2 (some (.int ((-1)))) (ij_SH, hi, hl, ij_HR) (fun n => rfl) (q1 c1 c2)
    · skip
      refine ij_go 6 25 [some (.ref 40)] [.int (((hi 40 7) - 1)), .ref 41] (ij_SH, hi, hl, ij_HR) (fun n => rfl) ?_
      refine ij_ial rfl rfl rfl (b0 c1 c2) ?_
      exact ij_ret 2 (some (.int ((hi 41 (((hi 40 7) - 1)).toNatClampNeg)))) (ij_SH, hi, hl, ij_HR) (fun n => rfl) (q2 c1 c2)
def f318_40 (hi : Nat → Nat → Int32) (hl : Nat → Nat → Int64) : Int32 := if (hi 40 7) ≤ 0 then ((-1)) else (if 3 < (hi 40 7) then ((-1)) else ((hi 41 (((hi 40 7) - 1)).toNatClampNeg)))
theorem t318_40 {N : Nat} {xs : Nat → Int32} {hi : Nat → Nat → Int32} {hl : Nat → Nat → Int64} {Q : Option Value → ij_H → Prop} (b0 : ¬ ((hi 40 7) ≤ 0) → ¬ (3 < (hi 40 7)) → ¬ (((hi 40 7) - 1) < 0 ∨ 3 ≤ (((hi 40 7) - 1) : Int32).toNatClampNeg)) (q : Q (some (.int (f318_40 hi hl))) (ij_SH, hi, hl, ij_HR)) : ij_R (ij_xt N xs) 318 0 [some (.ref 40)] [] (ij_SH, hi, hl, ij_HR) Q :=
  s318_40 b0 (fun k0 => by rw [f318_40, if_pos k0] at q; exact q) (fun k0 k1 => by rw [f318_40, if_neg k0, if_pos k1] at q; exact q) (fun k0 k1 => by rw [f318_40, if_neg k0, if_neg k1] at q; exact q)
set_option maxRecDepth 10000 in
-- ScaleForge$Life.innermost()I
theorem s318_47 {N : Nat} {xs : Nat → Int32} {hi : Nat → Nat → Int32} {hl : Nat → Nat → Int64} {Q : Option Value → ij_H → Prop} (b0 : ¬ ((hi 47 7) ≤ 0) → ¬ (3 < (hi 47 7)) → ¬ (((hi 47 7) - 1) < 0 ∨ 3 ≤ (((hi 47 7) - 1) : Int32).toNatClampNeg)) (q0 : ((hi 47 7) ≤ 0) → Q (some (.int ((-1)))) (ij_SH, hi, hl, ij_HR)) (q1 : ¬ ((hi 47 7) ≤ 0) → (3 < (hi 47 7)) → Q (some (.int ((-1)))) (ij_SH, hi, hl, ij_HR)) (q2 : ¬ ((hi 47 7) ≤ 0) → ¬ (3 < (hi 47 7)) → Q (some (.int ((hi 48 (((hi 47 7) - 1)).toNatClampNeg)))) (ij_SH, hi, hl, ij_HR)) : ij_R (ij_xt N xs) 318 0 [some (.ref 47)] [] (ij_SH, hi, hl, ij_HR) Q := by
  refine ij_br 3 ((hi 47 7) ≤ 0) 29 7 [some (.ref 47)] [] (ij_SH, hi, hl, ij_HR) (fun n => rfl) (fun c1 => ?_) (fun c1 => ?_)
  · skip
    exact ij_ret 2 (some (.int ((-1)))) (ij_SH, hi, hl, ij_HR) (fun n => rfl) (q0 c1)
  · skip
    refine ij_br 4 (3 < (hi 47 7)) 29 15 [some (.ref 47)] [] (ij_SH, hi, hl, ij_HR) (fun n => rfl) (fun c2 => ?_) (fun c2 => ?_)
    · skip
      exact ij_ret 2 (some (.int ((-1)))) (ij_SH, hi, hl, ij_HR) (fun n => rfl) (q1 c1 c2)
    · skip
      refine ij_go 6 25 [some (.ref 47)] [.int (((hi 47 7) - 1)), .ref 48] (ij_SH, hi, hl, ij_HR) (fun n => rfl) ?_
      refine ij_ial rfl rfl rfl (b0 c1 c2) ?_
      exact ij_ret 2 (some (.int ((hi 48 (((hi 47 7) - 1)).toNatClampNeg)))) (ij_SH, hi, hl, ij_HR) (fun n => rfl) (q2 c1 c2)
def f318_47 (hi : Nat → Nat → Int32) (hl : Nat → Nat → Int64) : Int32 := if (hi 47 7) ≤ 0 then ((-1)) else (if 3 < (hi 47 7) then ((-1)) else ((hi 48 (((hi 47 7) - 1)).toNatClampNeg)))
theorem t318_47 {N : Nat} {xs : Nat → Int32} {hi : Nat → Nat → Int32} {hl : Nat → Nat → Int64} {Q : Option Value → ij_H → Prop} (b0 : ¬ ((hi 47 7) ≤ 0) → ¬ (3 < (hi 47 7)) → ¬ (((hi 47 7) - 1) < 0 ∨ 3 ≤ (((hi 47 7) - 1) : Int32).toNatClampNeg)) (q : Q (some (.int (f318_47 hi hl))) (ij_SH, hi, hl, ij_HR)) : ij_R (ij_xt N xs) 318 0 [some (.ref 47)] [] (ij_SH, hi, hl, ij_HR) Q :=
  s318_47 b0 (fun k0 => by rw [f318_47, if_pos k0] at q; exact q) (fun k0 k1 => by rw [f318_47, if_neg k0, if_pos k1] at q; exact q) (fun k0 k1 => by rw [f318_47, if_neg k0, if_neg k1] at q; exact q)
set_option maxRecDepth 10000 in
-- ScaleForge$Life.isAtEnd()Z
theorem s319_40 {N : Nat} {xs : Nat → Int32} {hi : Nat → Nat → Int32} {hl : Nat → Nat → Int64} {Q : Option Value → ij_H → Prop} (b0 : ¬ ((hi 40 7) ≤ 0) → ¬ (3 < (hi 40 7)) → ¬ (((hi 40 7) - 1) < 0 ∨ 3 ≤ (((hi 40 7) - 1) : Int32).toNatClampNeg)) (q0 : ((f318_40 hi hl) < 0) → Q (some (.int (0))) (ij_SH, hi, hl, ij_HR)) (q1 : ¬ ((f318_40 hi hl) < 0) → ((hi 26 4) ≤ (f318_40 hi hl)) → Q (some (.int (0))) (ij_SH, hi, hl, ij_HR)) (q2 : ¬ ((f318_40 hi hl) < 0) → ¬ ((hi 26 4) ≤ (f318_40 hi hl)) → (30 ≤ (f318_40 hi hl)) → Q (some (.int (0))) (ij_SH, hi, hl, ij_HR)) (q3 : ¬ ((f318_40 hi hl) < 0) → ¬ ((hi 26 4) ≤ (f318_40 hi hl)) → ¬ (30 ≤ (f318_40 hi hl)) → ((hi 40 3) = (hi 30 ((f318_40 hi hl)).toNatClampNeg)) → Q (some (.int (1))) (ij_SH, hi, hl, ij_HR)) (q4 : ¬ ((f318_40 hi hl) < 0) → ¬ ((hi 26 4) ≤ (f318_40 hi hl)) → ¬ (30 ≤ (f318_40 hi hl)) → ¬ ((hi 40 3) = (hi 30 ((f318_40 hi hl)).toNatClampNeg)) → Q (some (.int (0))) (ij_SH, hi, hl, ij_HR)) : ij_R (ij_xt N xs) 319 0 [some (.ref 40), none] [] (ij_SH, hi, hl, ij_HR) Q := by
  refine ij_call 2 318 [some (.ref 40)] [] 4 [some (.ref 40), none] (ij_SH, hi, hl, ij_HR) (fun n => rfl) (t318_40  (fun c1 c2 => (b0 c1 c2)) ?_)
  -- back
  refine ij_call 5 118 [some (.ref 26), some (.int ((f318_40 hi hl)))] [] 13 [some (.ref 40), some (.int ((f318_40 hi hl)))] (ij_SH, hi, hl, ij_HR) (fun n => rfl) (s118_26 (f318_40 hi hl) (fun c3 => ?_) (fun c4 c5 => ?_) (fun c6 c7 c8 => ?_) (fun c9 c10 c11 => ?_))
  · skip
    exact ij_ret 3 (some (.int (0))) (ij_SH, hi, hl, ij_HR) (fun n => rfl) (q0 c3)
  · skip
    exact ij_ret 3 (some (.int (0))) (ij_SH, hi, hl, ij_HR) (fun n => rfl) (q1 c4 c5)
  · skip
    exact ij_ret 3 (some (.int (0))) (ij_SH, hi, hl, ij_HR) (fun n => rfl) (q2 c6 c7 c8)
  · skip
    refine ij_go 7 28 [some (.ref 40), some (.int ((f318_40 hi hl)))] [.int ((f318_40 hi hl)), .ref 30, .int ((hi 40 3))] (ij_SH, hi, hl, ij_HR) (fun n => rfl) ?_
    refine ij_ial rfl rfl rfl (ij_bd c9 (Int32.not_le.mp c11) (by decide)) ?_
    refine ij_br 1 ((hi 40 3) = (hi 30 ((f318_40 hi hl)).toNatClampNeg)) 32 36 [some (.ref 40), some (.int ((f318_40 hi hl)))] [] (ij_SH, hi, hl, ij_HR) (fun n => rfl) (fun c12 => ?_) (fun c12 => ?_)
    · skip
      exact ij_ret 3 (some (.int (1))) (ij_SH, hi, hl, ij_HR) (fun n => rfl) (q3 c9 c10 c11 c12)
    · skip
      exact ij_ret 2 (some (.int (0))) (ij_SH, hi, hl, ij_HR) (fun n => rfl) (q4 c9 c10 c11 c12)
set_option maxRecDepth 10000 in
-- ScaleForge$Life.isAtEnd()Z
theorem s319_47 {N : Nat} {xs : Nat → Int32} {hi : Nat → Nat → Int32} {hl : Nat → Nat → Int64} {Q : Option Value → ij_H → Prop} (b0 : ¬ ((hi 47 7) ≤ 0) → ¬ (3 < (hi 47 7)) → ¬ (((hi 47 7) - 1) < 0 ∨ 3 ≤ (((hi 47 7) - 1) : Int32).toNatClampNeg)) (q0 : ((f318_47 hi hl) < 0) → Q (some (.int (0))) (ij_SH, hi, hl, ij_HR)) (q1 : ¬ ((f318_47 hi hl) < 0) → ((hi 26 4) ≤ (f318_47 hi hl)) → Q (some (.int (0))) (ij_SH, hi, hl, ij_HR)) (q2 : ¬ ((f318_47 hi hl) < 0) → ¬ ((hi 26 4) ≤ (f318_47 hi hl)) → (30 ≤ (f318_47 hi hl)) → Q (some (.int (0))) (ij_SH, hi, hl, ij_HR)) (q3 : ¬ ((f318_47 hi hl) < 0) → ¬ ((hi 26 4) ≤ (f318_47 hi hl)) → ¬ (30 ≤ (f318_47 hi hl)) → ((hi 47 3) = (hi 30 ((f318_47 hi hl)).toNatClampNeg)) → Q (some (.int (1))) (ij_SH, hi, hl, ij_HR)) (q4 : ¬ ((f318_47 hi hl) < 0) → ¬ ((hi 26 4) ≤ (f318_47 hi hl)) → ¬ (30 ≤ (f318_47 hi hl)) → ¬ ((hi 47 3) = (hi 30 ((f318_47 hi hl)).toNatClampNeg)) → Q (some (.int (0))) (ij_SH, hi, hl, ij_HR)) : ij_R (ij_xt N xs) 319 0 [some (.ref 47), none] [] (ij_SH, hi, hl, ij_HR) Q := by
  refine ij_call 2 318 [some (.ref 47)] [] 4 [some (.ref 47), none] (ij_SH, hi, hl, ij_HR) (fun n => rfl) (t318_47  (fun c1 c2 => (b0 c1 c2)) ?_)
  -- back
  refine ij_call 5 118 [some (.ref 26), some (.int ((f318_47 hi hl)))] [] 13 [some (.ref 47), some (.int ((f318_47 hi hl)))] (ij_SH, hi, hl, ij_HR) (fun n => rfl) (s118_26 (f318_47 hi hl) (fun c3 => ?_) (fun c4 c5 => ?_) (fun c6 c7 c8 => ?_) (fun c9 c10 c11 => ?_))
  · skip
    exact ij_ret 3 (some (.int (0))) (ij_SH, hi, hl, ij_HR) (fun n => rfl) (q0 c3)
  · skip
    exact ij_ret 3 (some (.int (0))) (ij_SH, hi, hl, ij_HR) (fun n => rfl) (q1 c4 c5)
  · skip
    exact ij_ret 3 (some (.int (0))) (ij_SH, hi, hl, ij_HR) (fun n => rfl) (q2 c6 c7 c8)
  · skip
    refine ij_go 7 28 [some (.ref 47), some (.int ((f318_47 hi hl)))] [.int ((f318_47 hi hl)), .ref 30, .int ((hi 47 3))] (ij_SH, hi, hl, ij_HR) (fun n => rfl) ?_
    refine ij_ial rfl rfl rfl (ij_bd c9 (Int32.not_le.mp c11) (by decide)) ?_
    refine ij_br 1 ((hi 47 3) = (hi 30 ((f318_47 hi hl)).toNatClampNeg)) 32 36 [some (.ref 47), some (.int ((f318_47 hi hl)))] [] (ij_SH, hi, hl, ij_HR) (fun n => rfl) (fun c12 => ?_) (fun c12 => ?_)
    · skip
      exact ij_ret 3 (some (.int (1))) (ij_SH, hi, hl, ij_HR) (fun n => rfl) (q3 c9 c10 c11 c12)
    · skip
      exact ij_ret 2 (some (.int (0))) (ij_SH, hi, hl, ij_HR) (fun n => rfl) (q4 c9 c10 c11 c12)
set_option maxRecDepth 10000 in
-- ScaleForge$Life.dropHeld(I)V
theorem s320_40 {N : Nat} {xs : Nat → Int32} {hi : Nat → Nat → Int32} {hl : Nat → Nat → Int64} {Q : Option Value → ij_H → Prop} (a0 : Int32) (q0 : (a0 < 0) → ((hi 40 13) < 0) → Q (none) (ij_SH, (ij_ui hi 40 13 ((hi 40 13) + 1)), hl, ij_HR)) (q1 : (a0 < 0) → ¬ ((hi 40 13) < 0) → (60 ≤ (hi 40 13)) → Q (none) (ij_SH, (ij_ui hi 40 13 ((hi 40 13) + 1)), hl, ij_HR)) (q2 : (a0 < 0) → ¬ ((hi 40 13) < 0) → ¬ (60 ≤ (hi 40 13)) → Q (none) (ij_SH, (ij_ui (ij_ui hi 43 ((hi 40 13)).toNatClampNeg a0) 40 13 ((hi 40 13) + 1)), hl, ij_HR)) (q3 : ¬ (a0 < 0) → (64 ≤ a0) → ((hi 40 13) < 0) → Q (none) (ij_SH, (ij_ui hi 40 13 ((hi 40 13) + 1)), hl, ij_HR)) (q4 : ¬ (a0 < 0) → (64 ≤ a0) → ¬ ((hi 40 13) < 0) → (60 ≤ (hi 40 13)) → Q (none) (ij_SH, (ij_ui hi 40 13 ((hi 40 13) + 1)), hl, ij_HR)) (q5 : ¬ (a0 < 0) → (64 ≤ a0) → ¬ ((hi 40 13) < 0) → ¬ (60 ≤ (hi 40 13)) → Q (none) (ij_SH, (ij_ui (ij_ui hi 43 ((hi 40 13)).toNatClampNeg a0) 40 13 ((hi 40 13) + 1)), hl, ij_HR)) (q6 : ¬ (a0 < 0) → ¬ (64 ≤ a0) → ((lg_cmp ((((hl 23 3) : Int64).toUInt64 >>> ((a0 : Int32).toInt64.toUInt64 &&& Int64.toUInt64 63)).toInt64 &&& 1) 0) = 0) → ((hi 40 13) < 0) → Q (none) (ij_SH, (ij_ui hi 40 13 ((hi 40 13) + 1)), hl, ij_HR)) (q7 : ¬ (a0 < 0) → ¬ (64 ≤ a0) → ((lg_cmp ((((hl 23 3) : Int64).toUInt64 >>> ((a0 : Int32).toInt64.toUInt64 &&& Int64.toUInt64 63)).toInt64 &&& 1) 0) = 0) → ¬ ((hi 40 13) < 0) → (60 ≤ (hi 40 13)) → Q (none) (ij_SH, (ij_ui hi 40 13 ((hi 40 13) + 1)), hl, ij_HR)) (q8 : ¬ (a0 < 0) → ¬ (64 ≤ a0) → ((lg_cmp ((((hl 23 3) : Int64).toUInt64 >>> ((a0 : Int32).toInt64.toUInt64 &&& Int64.toUInt64 63)).toInt64 &&& 1) 0) = 0) → ¬ ((hi 40 13) < 0) → ¬ (60 ≤ (hi 40 13)) → Q (none) (ij_SH, (ij_ui (ij_ui hi 43 ((hi 40 13)).toNatClampNeg a0) 40 13 ((hi 40 13) + 1)), hl, ij_HR)) (q9 : ¬ (a0 < 0) → ¬ (64 ≤ a0) → ¬ ((lg_cmp ((((hl 23 3) : Int64).toUInt64 >>> ((a0 : Int32).toInt64.toUInt64 &&& Int64.toUInt64 63)).toInt64 &&& 1) 0) = 0) → ((hi 40 13) < 0) → Q (none) (ij_SH, (ij_ui hi 40 13 ((hi 40 13) + 1)), (ij_ul hl 23 3 ((hl 23 3) &&& ((f6 a0 hi hl) ^^^ (Int64.ofNat 18446744073709551615)))), ij_HR)) (q10 : ¬ (a0 < 0) → ¬ (64 ≤ a0) → ¬ ((lg_cmp ((((hl 23 3) : Int64).toUInt64 >>> ((a0 : Int32).toInt64.toUInt64 &&& Int64.toUInt64 63)).toInt64 &&& 1) 0) = 0) → ¬ ((hi 40 13) < 0) → (60 ≤ (hi 40 13)) → Q (none) (ij_SH, (ij_ui hi 40 13 ((hi 40 13) + 1)), (ij_ul hl 23 3 ((hl 23 3) &&& ((f6 a0 hi hl) ^^^ (Int64.ofNat 18446744073709551615)))), ij_HR)) (q11 : ¬ (a0 < 0) → ¬ (64 ≤ a0) → ¬ ((lg_cmp ((((hl 23 3) : Int64).toUInt64 >>> ((a0 : Int32).toInt64.toUInt64 &&& Int64.toUInt64 63)).toInt64 &&& 1) 0) = 0) → ¬ ((hi 40 13) < 0) → ¬ (60 ≤ (hi 40 13)) → Q (none) (ij_SH, (ij_ui (ij_ui hi 43 ((hi 40 13)).toNatClampNeg a0) 40 13 ((hi 40 13) + 1)), (ij_ul hl 23 3 ((hl 23 3) &&& ((f6 a0 hi hl) ^^^ (Int64.ofNat 18446744073709551615)))), ij_HR)) : ij_R (ij_xt N xs) 320 0 [some (.ref 40), some (.int a0)] [] (ij_SH, hi, hl, ij_HR) Q := by
  refine ij_call 4 182 [some (.ref 23), some (.int a0)] [] 8 [some (.ref 40), some (.int a0)] (ij_SH, hi, hl, ij_HR) (fun n => rfl) (s182_23 a0 (fun c1 => ?_) (fun c2 c3 => ?_) (fun c4 c5 c6 => ?_) (fun c7 c8 c9 => ?_))
  · skip
    refine ij_br 4 ((hi 40 13) < 0) 38 16 [some (.ref 40), some (.int a0)] [] (ij_SH, hi, hl, ij_HR) (fun n => rfl) (fun c10 => ?_) (fun c10 => ?_)
    · skip
      exact ij_ret 7 (none) (ij_SH, (ij_ui hi 40 13 ((hi 40 13) + 1)), hl, ij_HR) (fun n => rfl) (q0 c1 c10)
    · skip
      refine ij_br 6 (60 ≤ (hi 40 13)) 38 28 [some (.ref 40), some (.int a0)] [] (ij_SH, hi, hl, ij_HR) (fun n => rfl) (fun c11 => ?_) (fun c11 => ?_)
      · skip
        exact ij_ret 7 (none) (ij_SH, (ij_ui hi 40 13 ((hi 40 13) + 1)), hl, ij_HR) (fun n => rfl) (q1 c1 c10 c11)
      · skip
        refine ij_go 5 37 [some (.ref 40), some (.int a0)] [.int a0, .int ((hi 40 13)), .ref 43] (ij_SH, hi, hl, ij_HR) (fun n => rfl) ?_
        refine ij_ias rfl rfl rfl (ij_bd c10 (Int32.not_le.mp c11) (by decide)) ?_
        exact ij_ret 7 (none) (ij_SH, (ij_ui (ij_ui hi 43 ((hi 40 13)).toNatClampNeg a0) 40 13 ((hi 40 13) + 1)), hl, ij_HR) (fun n => rfl) (q2 c1 c10 c11)
  · skip
    refine ij_br 4 ((hi 40 13) < 0) 38 16 [some (.ref 40), some (.int a0)] [] (ij_SH, hi, hl, ij_HR) (fun n => rfl) (fun c12 => ?_) (fun c12 => ?_)
    · skip
      exact ij_ret 7 (none) (ij_SH, (ij_ui hi 40 13 ((hi 40 13) + 1)), hl, ij_HR) (fun n => rfl) (q3 c2 c3 c12)
    · skip
      refine ij_br 6 (60 ≤ (hi 40 13)) 38 28 [some (.ref 40), some (.int a0)] [] (ij_SH, hi, hl, ij_HR) (fun n => rfl) (fun c13 => ?_) (fun c13 => ?_)
      · skip
        exact ij_ret 7 (none) (ij_SH, (ij_ui hi 40 13 ((hi 40 13) + 1)), hl, ij_HR) (fun n => rfl) (q4 c2 c3 c12 c13)
      · skip
        refine ij_go 5 37 [some (.ref 40), some (.int a0)] [.int a0, .int ((hi 40 13)), .ref 43] (ij_SH, hi, hl, ij_HR) (fun n => rfl) ?_
        refine ij_ias rfl rfl rfl (ij_bd c12 (Int32.not_le.mp c13) (by decide)) ?_
        exact ij_ret 7 (none) (ij_SH, (ij_ui (ij_ui hi 43 ((hi 40 13)).toNatClampNeg a0) 40 13 ((hi 40 13) + 1)), hl, ij_HR) (fun n => rfl) (q5 c2 c3 c12 c13)
  · skip
    refine ij_br 4 ((hi 40 13) < 0) 38 16 [some (.ref 40), some (.int a0)] [] (ij_SH, hi, hl, ij_HR) (fun n => rfl) (fun c14 => ?_) (fun c14 => ?_)
    · skip
      exact ij_ret 7 (none) (ij_SH, (ij_ui hi 40 13 ((hi 40 13) + 1)), hl, ij_HR) (fun n => rfl) (q6 c4 c5 c6 c14)
    · skip
      refine ij_br 6 (60 ≤ (hi 40 13)) 38 28 [some (.ref 40), some (.int a0)] [] (ij_SH, hi, hl, ij_HR) (fun n => rfl) (fun c15 => ?_) (fun c15 => ?_)
      · skip
        exact ij_ret 7 (none) (ij_SH, (ij_ui hi 40 13 ((hi 40 13) + 1)), hl, ij_HR) (fun n => rfl) (q7 c4 c5 c6 c14 c15)
      · skip
        refine ij_go 5 37 [some (.ref 40), some (.int a0)] [.int a0, .int ((hi 40 13)), .ref 43] (ij_SH, hi, hl, ij_HR) (fun n => rfl) ?_
        refine ij_ias rfl rfl rfl (ij_bd c14 (Int32.not_le.mp c15) (by decide)) ?_
        exact ij_ret 7 (none) (ij_SH, (ij_ui (ij_ui hi 43 ((hi 40 13)).toNatClampNeg a0) 40 13 ((hi 40 13) + 1)), hl, ij_HR) (fun n => rfl) (q8 c4 c5 c6 c14 c15)
  · skip
    refine ij_br 4 ((hi 40 13) < 0) 38 16 [some (.ref 40), some (.int a0)] [] (ij_SH, hi, (ij_ul hl 23 3 ((hl 23 3) &&& ((f6 a0 hi hl) ^^^ (Int64.ofNat 18446744073709551615)))), ij_HR) (fun n => rfl) (fun c16 => ?_) (fun c16 => ?_)
    · skip
      exact ij_ret 7 (none) (ij_SH, (ij_ui hi 40 13 ((hi 40 13) + 1)), (ij_ul hl 23 3 ((hl 23 3) &&& ((f6 a0 hi hl) ^^^ (Int64.ofNat 18446744073709551615)))), ij_HR) (fun n => rfl) (q9 c7 c8 c9 c16)
    · skip
      refine ij_br 6 (60 ≤ (hi 40 13)) 38 28 [some (.ref 40), some (.int a0)] [] (ij_SH, hi, (ij_ul hl 23 3 ((hl 23 3) &&& ((f6 a0 hi hl) ^^^ (Int64.ofNat 18446744073709551615)))), ij_HR) (fun n => rfl) (fun c17 => ?_) (fun c17 => ?_)
      · skip
        exact ij_ret 7 (none) (ij_SH, (ij_ui hi 40 13 ((hi 40 13) + 1)), (ij_ul hl 23 3 ((hl 23 3) &&& ((f6 a0 hi hl) ^^^ (Int64.ofNat 18446744073709551615)))), ij_HR) (fun n => rfl) (q10 c7 c8 c9 c16 c17)
      · skip
        refine ij_go 5 37 [some (.ref 40), some (.int a0)] [.int a0, .int ((hi 40 13)), .ref 43] (ij_SH, hi, (ij_ul hl 23 3 ((hl 23 3) &&& ((f6 a0 hi hl) ^^^ (Int64.ofNat 18446744073709551615)))), ij_HR) (fun n => rfl) ?_
        refine ij_ias rfl rfl rfl (ij_bd c16 (Int32.not_le.mp c17) (by decide)) ?_
        exact ij_ret 7 (none) (ij_SH, (ij_ui (ij_ui hi 43 ((hi 40 13)).toNatClampNeg a0) 40 13 ((hi 40 13) + 1)), (ij_ul hl 23 3 ((hl 23 3) &&& ((f6 a0 hi hl) ^^^ (Int64.ofNat 18446744073709551615)))), ij_HR) (fun n => rfl) (q11 c7 c8 c9 c16 c17)
set_option maxRecDepth 10000 in
-- ScaleForge$Life.dropHeld(I)V
theorem s320_47 {N : Nat} {xs : Nat → Int32} {hi : Nat → Nat → Int32} {hl : Nat → Nat → Int64} {Q : Option Value → ij_H → Prop} (a0 : Int32) (q0 : (a0 < 0) → ((hi 47 13) < 0) → Q (none) (ij_SH, (ij_ui hi 47 13 ((hi 47 13) + 1)), hl, ij_HR)) (q1 : (a0 < 0) → ¬ ((hi 47 13) < 0) → (60 ≤ (hi 47 13)) → Q (none) (ij_SH, (ij_ui hi 47 13 ((hi 47 13) + 1)), hl, ij_HR)) (q2 : (a0 < 0) → ¬ ((hi 47 13) < 0) → ¬ (60 ≤ (hi 47 13)) → Q (none) (ij_SH, (ij_ui (ij_ui hi 50 ((hi 47 13)).toNatClampNeg a0) 47 13 ((hi 47 13) + 1)), hl, ij_HR)) (q3 : ¬ (a0 < 0) → (64 ≤ a0) → ((hi 47 13) < 0) → Q (none) (ij_SH, (ij_ui hi 47 13 ((hi 47 13) + 1)), hl, ij_HR)) (q4 : ¬ (a0 < 0) → (64 ≤ a0) → ¬ ((hi 47 13) < 0) → (60 ≤ (hi 47 13)) → Q (none) (ij_SH, (ij_ui hi 47 13 ((hi 47 13) + 1)), hl, ij_HR)) (q5 : ¬ (a0 < 0) → (64 ≤ a0) → ¬ ((hi 47 13) < 0) → ¬ (60 ≤ (hi 47 13)) → Q (none) (ij_SH, (ij_ui (ij_ui hi 50 ((hi 47 13)).toNatClampNeg a0) 47 13 ((hi 47 13) + 1)), hl, ij_HR)) (q6 : ¬ (a0 < 0) → ¬ (64 ≤ a0) → ((lg_cmp ((((hl 44 3) : Int64).toUInt64 >>> ((a0 : Int32).toInt64.toUInt64 &&& Int64.toUInt64 63)).toInt64 &&& 1) 0) = 0) → ((hi 47 13) < 0) → Q (none) (ij_SH, (ij_ui hi 47 13 ((hi 47 13) + 1)), hl, ij_HR)) (q7 : ¬ (a0 < 0) → ¬ (64 ≤ a0) → ((lg_cmp ((((hl 44 3) : Int64).toUInt64 >>> ((a0 : Int32).toInt64.toUInt64 &&& Int64.toUInt64 63)).toInt64 &&& 1) 0) = 0) → ¬ ((hi 47 13) < 0) → (60 ≤ (hi 47 13)) → Q (none) (ij_SH, (ij_ui hi 47 13 ((hi 47 13) + 1)), hl, ij_HR)) (q8 : ¬ (a0 < 0) → ¬ (64 ≤ a0) → ((lg_cmp ((((hl 44 3) : Int64).toUInt64 >>> ((a0 : Int32).toInt64.toUInt64 &&& Int64.toUInt64 63)).toInt64 &&& 1) 0) = 0) → ¬ ((hi 47 13) < 0) → ¬ (60 ≤ (hi 47 13)) → Q (none) (ij_SH, (ij_ui (ij_ui hi 50 ((hi 47 13)).toNatClampNeg a0) 47 13 ((hi 47 13) + 1)), hl, ij_HR)) (q9 : ¬ (a0 < 0) → ¬ (64 ≤ a0) → ¬ ((lg_cmp ((((hl 44 3) : Int64).toUInt64 >>> ((a0 : Int32).toInt64.toUInt64 &&& Int64.toUInt64 63)).toInt64 &&& 1) 0) = 0) → ((hi 47 13) < 0) → Q (none) (ij_SH, (ij_ui hi 47 13 ((hi 47 13) + 1)), (ij_ul hl 44 3 ((hl 44 3) &&& ((f6 a0 hi hl) ^^^ (Int64.ofNat 18446744073709551615)))), ij_HR)) (q10 : ¬ (a0 < 0) → ¬ (64 ≤ a0) → ¬ ((lg_cmp ((((hl 44 3) : Int64).toUInt64 >>> ((a0 : Int32).toInt64.toUInt64 &&& Int64.toUInt64 63)).toInt64 &&& 1) 0) = 0) → ¬ ((hi 47 13) < 0) → (60 ≤ (hi 47 13)) → Q (none) (ij_SH, (ij_ui hi 47 13 ((hi 47 13) + 1)), (ij_ul hl 44 3 ((hl 44 3) &&& ((f6 a0 hi hl) ^^^ (Int64.ofNat 18446744073709551615)))), ij_HR)) (q11 : ¬ (a0 < 0) → ¬ (64 ≤ a0) → ¬ ((lg_cmp ((((hl 44 3) : Int64).toUInt64 >>> ((a0 : Int32).toInt64.toUInt64 &&& Int64.toUInt64 63)).toInt64 &&& 1) 0) = 0) → ¬ ((hi 47 13) < 0) → ¬ (60 ≤ (hi 47 13)) → Q (none) (ij_SH, (ij_ui (ij_ui hi 50 ((hi 47 13)).toNatClampNeg a0) 47 13 ((hi 47 13) + 1)), (ij_ul hl 44 3 ((hl 44 3) &&& ((f6 a0 hi hl) ^^^ (Int64.ofNat 18446744073709551615)))), ij_HR)) : ij_R (ij_xt N xs) 320 0 [some (.ref 47), some (.int a0)] [] (ij_SH, hi, hl, ij_HR) Q := by
  refine ij_call 4 182 [some (.ref 44), some (.int a0)] [] 8 [some (.ref 47), some (.int a0)] (ij_SH, hi, hl, ij_HR) (fun n => rfl) (s182_44 a0 (fun c1 => ?_) (fun c2 c3 => ?_) (fun c4 c5 c6 => ?_) (fun c7 c8 c9 => ?_))
  · skip
    refine ij_br 4 ((hi 47 13) < 0) 38 16 [some (.ref 47), some (.int a0)] [] (ij_SH, hi, hl, ij_HR) (fun n => rfl) (fun c10 => ?_) (fun c10 => ?_)
    · skip
      exact ij_ret 7 (none) (ij_SH, (ij_ui hi 47 13 ((hi 47 13) + 1)), hl, ij_HR) (fun n => rfl) (q0 c1 c10)
    · skip
      refine ij_br 6 (60 ≤ (hi 47 13)) 38 28 [some (.ref 47), some (.int a0)] [] (ij_SH, hi, hl, ij_HR) (fun n => rfl) (fun c11 => ?_) (fun c11 => ?_)
      · skip
        exact ij_ret 7 (none) (ij_SH, (ij_ui hi 47 13 ((hi 47 13) + 1)), hl, ij_HR) (fun n => rfl) (q1 c1 c10 c11)
      · skip
        refine ij_go 5 37 [some (.ref 47), some (.int a0)] [.int a0, .int ((hi 47 13)), .ref 50] (ij_SH, hi, hl, ij_HR) (fun n => rfl) ?_
        refine ij_ias rfl rfl rfl (ij_bd c10 (Int32.not_le.mp c11) (by decide)) ?_
        exact ij_ret 7 (none) (ij_SH, (ij_ui (ij_ui hi 50 ((hi 47 13)).toNatClampNeg a0) 47 13 ((hi 47 13) + 1)), hl, ij_HR) (fun n => rfl) (q2 c1 c10 c11)
  · skip
    refine ij_br 4 ((hi 47 13) < 0) 38 16 [some (.ref 47), some (.int a0)] [] (ij_SH, hi, hl, ij_HR) (fun n => rfl) (fun c12 => ?_) (fun c12 => ?_)
    · skip
      exact ij_ret 7 (none) (ij_SH, (ij_ui hi 47 13 ((hi 47 13) + 1)), hl, ij_HR) (fun n => rfl) (q3 c2 c3 c12)
    · skip
      refine ij_br 6 (60 ≤ (hi 47 13)) 38 28 [some (.ref 47), some (.int a0)] [] (ij_SH, hi, hl, ij_HR) (fun n => rfl) (fun c13 => ?_) (fun c13 => ?_)
      · skip
        exact ij_ret 7 (none) (ij_SH, (ij_ui hi 47 13 ((hi 47 13) + 1)), hl, ij_HR) (fun n => rfl) (q4 c2 c3 c12 c13)
      · skip
        refine ij_go 5 37 [some (.ref 47), some (.int a0)] [.int a0, .int ((hi 47 13)), .ref 50] (ij_SH, hi, hl, ij_HR) (fun n => rfl) ?_
        refine ij_ias rfl rfl rfl (ij_bd c12 (Int32.not_le.mp c13) (by decide)) ?_
        exact ij_ret 7 (none) (ij_SH, (ij_ui (ij_ui hi 50 ((hi 47 13)).toNatClampNeg a0) 47 13 ((hi 47 13) + 1)), hl, ij_HR) (fun n => rfl) (q5 c2 c3 c12 c13)
  · skip
    refine ij_br 4 ((hi 47 13) < 0) 38 16 [some (.ref 47), some (.int a0)] [] (ij_SH, hi, hl, ij_HR) (fun n => rfl) (fun c14 => ?_) (fun c14 => ?_)
    · skip
      exact ij_ret 7 (none) (ij_SH, (ij_ui hi 47 13 ((hi 47 13) + 1)), hl, ij_HR) (fun n => rfl) (q6 c4 c5 c6 c14)
    · skip
      refine ij_br 6 (60 ≤ (hi 47 13)) 38 28 [some (.ref 47), some (.int a0)] [] (ij_SH, hi, hl, ij_HR) (fun n => rfl) (fun c15 => ?_) (fun c15 => ?_)
      · skip
        exact ij_ret 7 (none) (ij_SH, (ij_ui hi 47 13 ((hi 47 13) + 1)), hl, ij_HR) (fun n => rfl) (q7 c4 c5 c6 c14 c15)
      · skip
        refine ij_go 5 37 [some (.ref 47), some (.int a0)] [.int a0, .int ((hi 47 13)), .ref 50] (ij_SH, hi, hl, ij_HR) (fun n => rfl) ?_
        refine ij_ias rfl rfl rfl (ij_bd c14 (Int32.not_le.mp c15) (by decide)) ?_
        exact ij_ret 7 (none) (ij_SH, (ij_ui (ij_ui hi 50 ((hi 47 13)).toNatClampNeg a0) 47 13 ((hi 47 13) + 1)), hl, ij_HR) (fun n => rfl) (q8 c4 c5 c6 c14 c15)
  · skip
    refine ij_br 4 ((hi 47 13) < 0) 38 16 [some (.ref 47), some (.int a0)] [] (ij_SH, hi, (ij_ul hl 44 3 ((hl 44 3) &&& ((f6 a0 hi hl) ^^^ (Int64.ofNat 18446744073709551615)))), ij_HR) (fun n => rfl) (fun c16 => ?_) (fun c16 => ?_)
    · skip
      exact ij_ret 7 (none) (ij_SH, (ij_ui hi 47 13 ((hi 47 13) + 1)), (ij_ul hl 44 3 ((hl 44 3) &&& ((f6 a0 hi hl) ^^^ (Int64.ofNat 18446744073709551615)))), ij_HR) (fun n => rfl) (q9 c7 c8 c9 c16)
    · skip
      refine ij_br 6 (60 ≤ (hi 47 13)) 38 28 [some (.ref 47), some (.int a0)] [] (ij_SH, hi, (ij_ul hl 44 3 ((hl 44 3) &&& ((f6 a0 hi hl) ^^^ (Int64.ofNat 18446744073709551615)))), ij_HR) (fun n => rfl) (fun c17 => ?_) (fun c17 => ?_)
      · skip
        exact ij_ret 7 (none) (ij_SH, (ij_ui hi 47 13 ((hi 47 13) + 1)), (ij_ul hl 44 3 ((hl 44 3) &&& ((f6 a0 hi hl) ^^^ (Int64.ofNat 18446744073709551615)))), ij_HR) (fun n => rfl) (q10 c7 c8 c9 c16 c17)
      · skip
        refine ij_go 5 37 [some (.ref 47), some (.int a0)] [.int a0, .int ((hi 47 13)), .ref 50] (ij_SH, hi, (ij_ul hl 44 3 ((hl 44 3) &&& ((f6 a0 hi hl) ^^^ (Int64.ofNat 18446744073709551615)))), ij_HR) (fun n => rfl) ?_
        refine ij_ias rfl rfl rfl (ij_bd c16 (Int32.not_le.mp c17) (by decide)) ?_
        exact ij_ret 7 (none) (ij_SH, (ij_ui (ij_ui hi 50 ((hi 47 13)).toNatClampNeg a0) 47 13 ((hi 47 13) + 1)), (ij_ul hl 44 3 ((hl 44 3) &&& ((f6 a0 hi hl) ^^^ (Int64.ofNat 18446744073709551615)))), ij_HR) (fun n => rfl) (q11 c7 c8 c9 c16 c17)
set_option maxRecDepth 10000 in
-- ScaleForge$Life.comesToStep()Z
theorem s322_40 {N : Nat} {xs : Nat → Int32} {hi : Nat → Nat → Int32} {hl : Nat → Nat → Int64} {Q : Option Value → ij_H → Prop} (q0 : ((hi 40 3) < 0) → Q (some (.int (0))) (ij_SH, (ij_ui (ij_ui (ij_ui hi 40 14 0) 40 4 1) 40 9 ((hi 40 9) + 0)), hl, ij_HR)) (q1 : ¬ ((hi 40 3) < 0) → ((hi 26 4) ≤ (hi 40 3)) → Q (some (.int (0))) (ij_SH, (ij_ui (ij_ui (ij_ui hi 40 14 0) 40 4 1) 40 9 ((hi 40 9) + 0)), hl, ij_HR)) (q2 : ¬ ((hi 40 3) < 0) → ¬ ((hi 26 4) ≤ (hi 40 3)) → (30 ≤ (hi 40 3)) → Q (some (.int (0))) (ij_SH, (ij_ui (ij_ui (ij_ui hi 40 14 0) 40 4 1) 40 9 ((hi 40 9) + 0)), hl, ij_HR)) (q3 : ¬ ((hi 40 3) < 0) → ¬ ((hi 26 4) ≤ (hi 40 3)) → ¬ (30 ≤ (hi 40 3)) → ((hi 40 9) < 300) → Q (some (.int (1))) (ij_SH, (ij_ui (ij_ui (ij_ui hi 40 14 0) 40 4 0) 40 9 ((hi 40 9) + 1)), hl, ij_HR)) (q4 : ¬ ((hi 40 3) < 0) → ¬ ((hi 26 4) ≤ (hi 40 3)) → ¬ (30 ≤ (hi 40 3)) → ¬ ((hi 40 9) < 300) → Q (some (.int (0))) (ij_SH, (ij_ui (ij_ui (ij_ui hi 40 14 1) 40 4 1) 40 9 ((hi 40 9) + 0)), hl, ij_HR)) : ij_R (ij_xt N xs) 322 0 [some (.ref 40), none] [] (ij_SH, hi, hl, ij_HR) Q := by
  refine ij_call 5 118 [some (.ref 26), some (.int ((hi 40 3)))] [] 11 [some (.ref 40), none] (ij_SH, hi, hl, ij_HR) (fun n => rfl) (s118_26 (hi 40 3) (fun c1 => ?_) (fun c2 c3 => ?_) (fun c4 c5 c6 => ?_) (fun c7 c8 c9 => ?_))
  · skip
    exact ij_ret 27 (some (.int (0))) (ij_SH, (ij_ui (ij_ui (ij_ui hi 40 14 0) 40 4 1) 40 9 ((hi 40 9) + 0)), hl, ij_HR) (fun n => rfl) (q0 c1)
  · skip
    exact ij_ret 27 (some (.int (0))) (ij_SH, (ij_ui (ij_ui (ij_ui hi 40 14 0) 40 4 1) 40 9 ((hi 40 9) + 0)), hl, ij_HR) (fun n => rfl) (q1 c2 c3)
  · skip
    exact ij_ret 27 (some (.int (0))) (ij_SH, (ij_ui (ij_ui (ij_ui hi 40 14 0) 40 4 1) 40 9 ((hi 40 9) + 0)), hl, ij_HR) (fun n => rfl) (q2 c4 c5 c6)
  · skip
    refine ij_br 8 ((hi 40 9) < 300) 31 27 [some (.ref 40), some (.int (1))] [.ref 40] (ij_SH, hi, hl, ij_HR) (fun n => rfl) (fun c10 => ?_) (fun c10 => ?_)
    · skip
      exact ij_ret 25 (some (.int (1))) (ij_SH, (ij_ui (ij_ui (ij_ui hi 40 14 0) 40 4 0) 40 9 ((hi 40 9) + 1)), hl, ij_HR) (fun n => rfl) (q3 c7 c8 c9 c10)
    · skip
      exact ij_ret 27 (some (.int (0))) (ij_SH, (ij_ui (ij_ui (ij_ui hi 40 14 1) 40 4 1) 40 9 ((hi 40 9) + 0)), hl, ij_HR) (fun n => rfl) (q4 c7 c8 c9 c10)
set_option maxRecDepth 10000 in
-- ScaleForge$Life.comesToStep()Z
theorem s322_47 {N : Nat} {xs : Nat → Int32} {hi : Nat → Nat → Int32} {hl : Nat → Nat → Int64} {Q : Option Value → ij_H → Prop} (q0 : ((hi 47 3) < 0) → Q (some (.int (0))) (ij_SH, (ij_ui (ij_ui (ij_ui hi 47 14 0) 47 4 1) 47 9 ((hi 47 9) + 0)), hl, ij_HR)) (q1 : ¬ ((hi 47 3) < 0) → ((hi 26 4) ≤ (hi 47 3)) → Q (some (.int (0))) (ij_SH, (ij_ui (ij_ui (ij_ui hi 47 14 0) 47 4 1) 47 9 ((hi 47 9) + 0)), hl, ij_HR)) (q2 : ¬ ((hi 47 3) < 0) → ¬ ((hi 26 4) ≤ (hi 47 3)) → (30 ≤ (hi 47 3)) → Q (some (.int (0))) (ij_SH, (ij_ui (ij_ui (ij_ui hi 47 14 0) 47 4 1) 47 9 ((hi 47 9) + 0)), hl, ij_HR)) (q3 : ¬ ((hi 47 3) < 0) → ¬ ((hi 26 4) ≤ (hi 47 3)) → ¬ (30 ≤ (hi 47 3)) → ((hi 47 9) < 300) → Q (some (.int (1))) (ij_SH, (ij_ui (ij_ui (ij_ui hi 47 14 0) 47 4 0) 47 9 ((hi 47 9) + 1)), hl, ij_HR)) (q4 : ¬ ((hi 47 3) < 0) → ¬ ((hi 26 4) ≤ (hi 47 3)) → ¬ (30 ≤ (hi 47 3)) → ¬ ((hi 47 9) < 300) → Q (some (.int (0))) (ij_SH, (ij_ui (ij_ui (ij_ui hi 47 14 1) 47 4 1) 47 9 ((hi 47 9) + 0)), hl, ij_HR)) : ij_R (ij_xt N xs) 322 0 [some (.ref 47), none] [] (ij_SH, hi, hl, ij_HR) Q := by
  refine ij_call 5 118 [some (.ref 26), some (.int ((hi 47 3)))] [] 11 [some (.ref 47), none] (ij_SH, hi, hl, ij_HR) (fun n => rfl) (s118_26 (hi 47 3) (fun c1 => ?_) (fun c2 c3 => ?_) (fun c4 c5 c6 => ?_) (fun c7 c8 c9 => ?_))
  · skip
    exact ij_ret 27 (some (.int (0))) (ij_SH, (ij_ui (ij_ui (ij_ui hi 47 14 0) 47 4 1) 47 9 ((hi 47 9) + 0)), hl, ij_HR) (fun n => rfl) (q0 c1)
  · skip
    exact ij_ret 27 (some (.int (0))) (ij_SH, (ij_ui (ij_ui (ij_ui hi 47 14 0) 47 4 1) 47 9 ((hi 47 9) + 0)), hl, ij_HR) (fun n => rfl) (q1 c2 c3)
  · skip
    exact ij_ret 27 (some (.int (0))) (ij_SH, (ij_ui (ij_ui (ij_ui hi 47 14 0) 47 4 1) 47 9 ((hi 47 9) + 0)), hl, ij_HR) (fun n => rfl) (q2 c4 c5 c6)
  · skip
    refine ij_br 8 ((hi 47 9) < 300) 31 27 [some (.ref 47), some (.int (1))] [.ref 47] (ij_SH, hi, hl, ij_HR) (fun n => rfl) (fun c10 => ?_) (fun c10 => ?_)
    · skip
      exact ij_ret 25 (some (.int (1))) (ij_SH, (ij_ui (ij_ui (ij_ui hi 47 14 0) 47 4 0) 47 9 ((hi 47 9) + 1)), hl, ij_HR) (fun n => rfl) (q3 c7 c8 c9 c10)
    · skip
      exact ij_ret 27 (some (.int (0))) (ij_SH, (ij_ui (ij_ui (ij_ui hi 47 14 1) 47 4 1) 47 9 ((hi 47 9) + 0)), hl, ij_HR) (fun n => rfl) (q4 c7 c8 c9 c10)
set_option maxRecDepth 10000 in
-- ScaleForge$Life.releaseOrMiss(I)V
theorem s324_40 {N : Nat} {xs : Nat → Int32} {hi : Nat → Nat → Int32} {hl : Nat → Nat → Int64} {Q : Option Value → ij_H → Prop} (a0 : Int32) (q0 : (a0 < 0) → Q (none) (ij_SH, (ij_ui (ij_ui hi 40 12 ((hi 40 12) + 0)) 40 10 ((hi 40 10) + 1)), hl, ij_HR)) (q1 : ¬ (a0 < 0) → (64 ≤ a0) → Q (none) (ij_SH, (ij_ui (ij_ui hi 40 12 ((hi 40 12) + 0)) 40 10 ((hi 40 10) + 1)), hl, ij_HR)) (q2 : ¬ (a0 < 0) → ¬ (64 ≤ a0) → ((lg_cmp ((((hl 23 3) : Int64).toUInt64 >>> ((a0 : Int32).toInt64.toUInt64 &&& Int64.toUInt64 63)).toInt64 &&& 1) 0) = 0) → Q (none) (ij_SH, (ij_ui (ij_ui hi 40 12 ((hi 40 12) + 0)) 40 10 ((hi 40 10) + 1)), hl, ij_HR)) (q3 : ¬ (a0 < 0) → ¬ (64 ≤ a0) → ¬ ((lg_cmp ((((hl 23 3) : Int64).toUInt64 >>> ((a0 : Int32).toInt64.toUInt64 &&& Int64.toUInt64 63)).toInt64 &&& 1) 0) = 0) → Q (none) (ij_SH, (ij_ui (ij_ui hi 40 12 ((hi 40 12) + 1)) 40 10 ((hi 40 10) + 0)), (ij_ul hl 23 3 ((hl 23 3) &&& ((f6 a0 hi hl) ^^^ (Int64.ofNat 18446744073709551615)))), ij_HR)) : ij_R (ij_xt N xs) 324 0 [some (.ref 40), some (.int a0), none] [] (ij_SH, hi, hl, ij_HR) Q := by
  refine ij_call 4 182 [some (.ref 23), some (.int a0)] [] 8 [some (.ref 40), some (.int a0), none] (ij_SH, hi, hl, ij_HR) (fun n => rfl) (s182_23 a0 (fun c1 => ?_) (fun c2 c3 => ?_) (fun c4 c5 c6 => ?_) (fun c7 c8 c9 => ?_))
  · skip
    exact ij_ret 18 (none) (ij_SH, (ij_ui (ij_ui hi 40 12 ((hi 40 12) + 0)) 40 10 ((hi 40 10) + 1)), hl, ij_HR) (fun n => rfl) (q0 c1)
  · skip
    exact ij_ret 18 (none) (ij_SH, (ij_ui (ij_ui hi 40 12 ((hi 40 12) + 0)) 40 10 ((hi 40 10) + 1)), hl, ij_HR) (fun n => rfl) (q1 c2 c3)
  · skip
    exact ij_ret 18 (none) (ij_SH, (ij_ui (ij_ui hi 40 12 ((hi 40 12) + 0)) 40 10 ((hi 40 10) + 1)), hl, ij_HR) (fun n => rfl) (q2 c4 c5 c6)
  · skip
    exact ij_ret 20 (none) (ij_SH, (ij_ui (ij_ui hi 40 12 ((hi 40 12) + 1)) 40 10 ((hi 40 10) + 0)), (ij_ul hl 23 3 ((hl 23 3) &&& ((f6 a0 hi hl) ^^^ (Int64.ofNat 18446744073709551615)))), ij_HR) (fun n => rfl) (q3 c7 c8 c9)
set_option maxRecDepth 10000 in
-- ScaleForge$Life.releaseOrMiss(I)V
theorem s324_47 {N : Nat} {xs : Nat → Int32} {hi : Nat → Nat → Int32} {hl : Nat → Nat → Int64} {Q : Option Value → ij_H → Prop} (a0 : Int32) (q0 : (a0 < 0) → Q (none) (ij_SH, (ij_ui (ij_ui hi 47 12 ((hi 47 12) + 0)) 47 10 ((hi 47 10) + 1)), hl, ij_HR)) (q1 : ¬ (a0 < 0) → (64 ≤ a0) → Q (none) (ij_SH, (ij_ui (ij_ui hi 47 12 ((hi 47 12) + 0)) 47 10 ((hi 47 10) + 1)), hl, ij_HR)) (q2 : ¬ (a0 < 0) → ¬ (64 ≤ a0) → ((lg_cmp ((((hl 44 3) : Int64).toUInt64 >>> ((a0 : Int32).toInt64.toUInt64 &&& Int64.toUInt64 63)).toInt64 &&& 1) 0) = 0) → Q (none) (ij_SH, (ij_ui (ij_ui hi 47 12 ((hi 47 12) + 0)) 47 10 ((hi 47 10) + 1)), hl, ij_HR)) (q3 : ¬ (a0 < 0) → ¬ (64 ≤ a0) → ¬ ((lg_cmp ((((hl 44 3) : Int64).toUInt64 >>> ((a0 : Int32).toInt64.toUInt64 &&& Int64.toUInt64 63)).toInt64 &&& 1) 0) = 0) → Q (none) (ij_SH, (ij_ui (ij_ui hi 47 12 ((hi 47 12) + 1)) 47 10 ((hi 47 10) + 0)), (ij_ul hl 44 3 ((hl 44 3) &&& ((f6 a0 hi hl) ^^^ (Int64.ofNat 18446744073709551615)))), ij_HR)) : ij_R (ij_xt N xs) 324 0 [some (.ref 47), some (.int a0), none] [] (ij_SH, hi, hl, ij_HR) Q := by
  refine ij_call 4 182 [some (.ref 44), some (.int a0)] [] 8 [some (.ref 47), some (.int a0), none] (ij_SH, hi, hl, ij_HR) (fun n => rfl) (s182_44 a0 (fun c1 => ?_) (fun c2 c3 => ?_) (fun c4 c5 c6 => ?_) (fun c7 c8 c9 => ?_))
  · skip
    exact ij_ret 18 (none) (ij_SH, (ij_ui (ij_ui hi 47 12 ((hi 47 12) + 0)) 47 10 ((hi 47 10) + 1)), hl, ij_HR) (fun n => rfl) (q0 c1)
  · skip
    exact ij_ret 18 (none) (ij_SH, (ij_ui (ij_ui hi 47 12 ((hi 47 12) + 0)) 47 10 ((hi 47 10) + 1)), hl, ij_HR) (fun n => rfl) (q1 c2 c3)
  · skip
    exact ij_ret 18 (none) (ij_SH, (ij_ui (ij_ui hi 47 12 ((hi 47 12) + 0)) 47 10 ((hi 47 10) + 1)), hl, ij_HR) (fun n => rfl) (q2 c4 c5 c6)
  · skip
    exact ij_ret 20 (none) (ij_SH, (ij_ui (ij_ui hi 47 12 ((hi 47 12) + 1)) 47 10 ((hi 47 10) + 0)), (ij_ul hl 44 3 ((hl 44 3) &&& ((f6 a0 hi hl) ^^^ (Int64.ofNat 18446744073709551615)))), ij_HR) (fun n => rfl) (q3 c7 c8 c9)
set_option maxRecDepth 10000 in
-- ScaleForge$Life.draw(I)I
theorem s326_40 {N : Nat} {xs : Nat → Int32} {hi : Nat → Nat → Int32} {hl : Nat → Nat → Int64} {Q : Option Value → ij_H → Prop} (a0 : Int32) (q0 : (a0 ≤ 0) → Q (some (.int (0))) (ij_SH, (ij_ui hi 40 2 ((((hi 40 2) * 3293) + 11527) - (((hi 40 2) * 3293) + 11527) / 65536 * 65536)), hl, ij_HR)) (q1 : ¬ (a0 ≤ 0) → Q (some (.int (((((((hi 40 2) * 3293) + 11527) - (((hi 40 2) * 3293) + 11527) / 65536 * 65536) / 8) - (((((hi 40 2) * 3293) + 11527) - (((hi 40 2) * 3293) + 11527) / 65536 * 65536) / 8) / a0 * a0)))) (ij_SH, (ij_ui hi 40 2 ((((hi 40 2) * 3293) + 11527) - (((hi 40 2) * 3293) + 11527) / 65536 * 65536)), hl, ij_HR)) : ij_R (ij_xt N xs) 326 0 [some (.ref 40), some (.int a0)] [] (ij_SH, hi, hl, ij_HR) Q := by
  refine ij_br 12 (a0 ≤ 0) 35 23 [some (.ref 40), some (.int a0)] [] (ij_SH, (ij_ui hi 40 2 ((((hi 40 2) * 3293) + 11527) - (((hi 40 2) * 3293) + 11527) / 65536 * 65536)), hl, ij_HR) (fun n => rfl) (fun c1 => ?_) (fun c1 => ?_)
  · skip
    exact ij_ret 2 (some (.int (0))) (ij_SH, (ij_ui hi 40 2 ((((hi 40 2) * 3293) + 11527) - (((hi 40 2) * 3293) + 11527) / 65536 * 65536)), hl, ij_HR) (fun n => rfl) (q0 c1)
  · skip
    refine ij_go 5 31 [some (.ref 40), some (.int a0)] [.int a0, .int ((((((hi 40 2) * 3293) + 11527) - (((hi 40 2) * 3293) + 11527) / 65536 * 65536) / 8))] (ij_SH, (ij_ui hi 40 2 ((((hi 40 2) * 3293) + 11527) - (((hi 40 2) * 3293) + 11527) / 65536 * 65536)), hl, ij_HR) (fun n => rfl) ?_
    refine ij_irem rfl (ij_nz1 c1) ?_
    exact ij_ret 2 (some (.int (((((((hi 40 2) * 3293) + 11527) - (((hi 40 2) * 3293) + 11527) / 65536 * 65536) / 8) - (((((hi 40 2) * 3293) + 11527) - (((hi 40 2) * 3293) + 11527) / 65536 * 65536) / 8) / a0 * a0)))) (ij_SH, (ij_ui hi 40 2 ((((hi 40 2) * 3293) + 11527) - (((hi 40 2) * 3293) + 11527) / 65536 * 65536)), hl, ij_HR) (fun n => rfl) (q1 c1)
set_option maxRecDepth 10000 in
-- ScaleForge$Life.draw(I)I
theorem s326_47 {N : Nat} {xs : Nat → Int32} {hi : Nat → Nat → Int32} {hl : Nat → Nat → Int64} {Q : Option Value → ij_H → Prop} (a0 : Int32) (q0 : (a0 ≤ 0) → Q (some (.int (0))) (ij_SH, (ij_ui hi 47 2 ((((hi 47 2) * 3293) + 11527) - (((hi 47 2) * 3293) + 11527) / 65536 * 65536)), hl, ij_HR)) (q1 : ¬ (a0 ≤ 0) → Q (some (.int (((((((hi 47 2) * 3293) + 11527) - (((hi 47 2) * 3293) + 11527) / 65536 * 65536) / 8) - (((((hi 47 2) * 3293) + 11527) - (((hi 47 2) * 3293) + 11527) / 65536 * 65536) / 8) / a0 * a0)))) (ij_SH, (ij_ui hi 47 2 ((((hi 47 2) * 3293) + 11527) - (((hi 47 2) * 3293) + 11527) / 65536 * 65536)), hl, ij_HR)) : ij_R (ij_xt N xs) 326 0 [some (.ref 47), some (.int a0)] [] (ij_SH, hi, hl, ij_HR) Q := by
  refine ij_br 12 (a0 ≤ 0) 35 23 [some (.ref 47), some (.int a0)] [] (ij_SH, (ij_ui hi 47 2 ((((hi 47 2) * 3293) + 11527) - (((hi 47 2) * 3293) + 11527) / 65536 * 65536)), hl, ij_HR) (fun n => rfl) (fun c1 => ?_) (fun c1 => ?_)
  · skip
    exact ij_ret 2 (some (.int (0))) (ij_SH, (ij_ui hi 47 2 ((((hi 47 2) * 3293) + 11527) - (((hi 47 2) * 3293) + 11527) / 65536 * 65536)), hl, ij_HR) (fun n => rfl) (q0 c1)
  · skip
    refine ij_go 5 31 [some (.ref 47), some (.int a0)] [.int a0, .int ((((((hi 47 2) * 3293) + 11527) - (((hi 47 2) * 3293) + 11527) / 65536 * 65536) / 8))] (ij_SH, (ij_ui hi 47 2 ((((hi 47 2) * 3293) + 11527) - (((hi 47 2) * 3293) + 11527) / 65536 * 65536)), hl, ij_HR) (fun n => rfl) ?_
    refine ij_irem rfl (ij_nz1 c1) ?_
    exact ij_ret 2 (some (.int (((((((hi 47 2) * 3293) + 11527) - (((hi 47 2) * 3293) + 11527) / 65536 * 65536) / 8) - (((((hi 47 2) * 3293) + 11527) - (((hi 47 2) * 3293) + 11527) / 65536 * 65536) / 8) / a0 * a0)))) (ij_SH, (ij_ui hi 47 2 ((((hi 47 2) * 3293) + 11527) - (((hi 47 2) * 3293) + 11527) / 65536 * 65536)), hl, ij_HR) (fun n => rfl) (q1 c1)
set_option maxRecDepth 10000 in
-- ScaleForge$Life.enterIf(ZII)V
theorem s328_40 {N : Nat} {xs : Nat → Int32} {hi : Nat → Nat → Int32} {hl : Nat → Nat → Int64} {Q : Option Value → ij_H → Prop} (a0 : Int32) (a1 : Int32) (a2 : Int32) (b0 : (a0 = 0) → ¬ (a1 < 0 ∨ 30 ≤ (a1 : Int32).toNatClampNeg)) (b1 : ¬ (a0 = 0) → ((hi 40 7) < 0) → ¬ (a1 < 0 ∨ 30 ≤ (a1 : Int32).toNatClampNeg)) (b2 : ¬ (a0 = 0) → ¬ ((hi 40 7) < 0) → (3 ≤ (hi 40 7)) → ¬ (a1 < 0 ∨ 30 ≤ (a1 : Int32).toNatClampNeg)) (q0 : (a0 = 0) → Q (none) (ij_SH, (ij_ui hi 40 3 (hi 30 (a1).toNatClampNeg)), hl, ij_HR)) (q1 : ¬ (a0 = 0) → ((hi 40 7) < 0) → Q (none) (ij_SH, (ij_ui hi 40 3 (hi 30 (a1).toNatClampNeg)), hl, ij_HR)) (q2 : ¬ (a0 = 0) → ¬ ((hi 40 7) < 0) → (3 ≤ (hi 40 7)) → Q (none) (ij_SH, (ij_ui hi 40 3 (hi 30 (a1).toNatClampNeg)), hl, ij_HR)) (q3 : ¬ (a0 = 0) → ¬ ((hi 40 7) < 0) → ¬ (3 ≤ (hi 40 7)) → Q (none) (ij_SH, (ij_ui (ij_ui (ij_ui hi 41 ((hi 40 7)).toNatClampNeg a1) 42 ((hi 40 7)).toNatClampNeg a2) 40 7 ((hi 40 7) + 1)), hl, ij_HR)) : ij_R (ij_xt N xs) 328 0 [some (.ref 40), some (.int a0), some (.int a1), some (.int a2)] [] (ij_SH, hi, hl, ij_HR) Q := by
  refine ij_br 2 (a0 = 0) 52 4 [some (.ref 40), some (.int a0), some (.int a1), some (.int a2)] [] (ij_SH, hi, hl, ij_HR) (fun n => rfl) (fun c1 => ?_) (fun c1 => ?_)
  · skip
    refine ij_go 5 61 [some (.ref 40), some (.int a0), some (.int a1), some (.int a2)] [.int a1, .ref 30, .ref 40] (ij_SH, hi, hl, ij_HR) (fun n => rfl) ?_
    refine ij_ial rfl rfl rfl (b0 c1) ?_
    exact ij_ret 2 (none) (ij_SH, (ij_ui hi 40 3 (hi 30 (a1).toNatClampNeg)), hl, ij_HR) (fun n => rfl) (q0 c1)
  · skip
    refine ij_br 3 ((hi 40 7) < 0) 52 11 [some (.ref 40), some (.int a0), some (.int a1), some (.int a2)] [] (ij_SH, hi, hl, ij_HR) (fun n => rfl) (fun c2 => ?_) (fun c2 => ?_)
    · skip
      refine ij_go 5 61 [some (.ref 40), some (.int a0), some (.int a1), some (.int a2)] [.int a1, .ref 30, .ref 40] (ij_SH, hi, hl, ij_HR) (fun n => rfl) ?_
      refine ij_ial rfl rfl rfl (b1 c1 c2) ?_
      exact ij_ret 2 (none) (ij_SH, (ij_ui hi 40 3 (hi 30 (a1).toNatClampNeg)), hl, ij_HR) (fun n => rfl) (q1 c1 c2)
    · skip
      refine ij_br 4 (3 ≤ (hi 40 7)) 52 19 [some (.ref 40), some (.int a0), some (.int a1), some (.int a2)] [] (ij_SH, hi, hl, ij_HR) (fun n => rfl) (fun c3 => ?_) (fun c3 => ?_)
      · skip
        refine ij_go 5 61 [some (.ref 40), some (.int a0), some (.int a1), some (.int a2)] [.int a1, .ref 30, .ref 40] (ij_SH, hi, hl, ij_HR) (fun n => rfl) ?_
        refine ij_ial rfl rfl rfl (b2 c1 c2 c3) ?_
        exact ij_ret 2 (none) (ij_SH, (ij_ui hi 40 3 (hi 30 (a1).toNatClampNeg)), hl, ij_HR) (fun n => rfl) (q2 c1 c2 c3)
      · skip
        refine ij_go 5 28 [some (.ref 40), some (.int a0), some (.int a1), some (.int a2)] [.int a1, .int ((hi 40 7)), .ref 41] (ij_SH, hi, hl, ij_HR) (fun n => rfl) ?_
        refine ij_ias rfl rfl rfl (ij_bd c2 (Int32.not_le.mp c3) (by decide)) ?_
        refine ij_go 5 38 [some (.ref 40), some (.int a0), some (.int a1), some (.int a2)] [.int a2, .int ((hi 40 7)), .ref 42] (ij_SH, (ij_ui hi 41 ((hi 40 7)).toNatClampNeg a1), hl, ij_HR) (fun n => rfl) ?_
        refine ij_ias rfl rfl rfl (ij_bd c2 (Int32.not_le.mp c3) (by decide)) ?_
        exact ij_ret 8 (none) (ij_SH, (ij_ui (ij_ui (ij_ui hi 41 ((hi 40 7)).toNatClampNeg a1) 42 ((hi 40 7)).toNatClampNeg a2) 40 7 ((hi 40 7) + 1)), hl, ij_HR) (fun n => rfl) (q3 c1 c2 c3)
set_option maxRecDepth 10000 in
-- ScaleForge$Life.enterIf(ZII)V
theorem s328_47 {N : Nat} {xs : Nat → Int32} {hi : Nat → Nat → Int32} {hl : Nat → Nat → Int64} {Q : Option Value → ij_H → Prop} (a0 : Int32) (a1 : Int32) (a2 : Int32) (b0 : (a0 = 0) → ¬ (a1 < 0 ∨ 30 ≤ (a1 : Int32).toNatClampNeg)) (b1 : ¬ (a0 = 0) → ((hi 47 7) < 0) → ¬ (a1 < 0 ∨ 30 ≤ (a1 : Int32).toNatClampNeg)) (b2 : ¬ (a0 = 0) → ¬ ((hi 47 7) < 0) → (3 ≤ (hi 47 7)) → ¬ (a1 < 0 ∨ 30 ≤ (a1 : Int32).toNatClampNeg)) (q0 : (a0 = 0) → Q (none) (ij_SH, (ij_ui hi 47 3 (hi 30 (a1).toNatClampNeg)), hl, ij_HR)) (q1 : ¬ (a0 = 0) → ((hi 47 7) < 0) → Q (none) (ij_SH, (ij_ui hi 47 3 (hi 30 (a1).toNatClampNeg)), hl, ij_HR)) (q2 : ¬ (a0 = 0) → ¬ ((hi 47 7) < 0) → (3 ≤ (hi 47 7)) → Q (none) (ij_SH, (ij_ui hi 47 3 (hi 30 (a1).toNatClampNeg)), hl, ij_HR)) (q3 : ¬ (a0 = 0) → ¬ ((hi 47 7) < 0) → ¬ (3 ≤ (hi 47 7)) → Q (none) (ij_SH, (ij_ui (ij_ui (ij_ui hi 48 ((hi 47 7)).toNatClampNeg a1) 49 ((hi 47 7)).toNatClampNeg a2) 47 7 ((hi 47 7) + 1)), hl, ij_HR)) : ij_R (ij_xt N xs) 328 0 [some (.ref 47), some (.int a0), some (.int a1), some (.int a2)] [] (ij_SH, hi, hl, ij_HR) Q := by
  refine ij_br 2 (a0 = 0) 52 4 [some (.ref 47), some (.int a0), some (.int a1), some (.int a2)] [] (ij_SH, hi, hl, ij_HR) (fun n => rfl) (fun c1 => ?_) (fun c1 => ?_)
  · skip
    refine ij_go 5 61 [some (.ref 47), some (.int a0), some (.int a1), some (.int a2)] [.int a1, .ref 30, .ref 47] (ij_SH, hi, hl, ij_HR) (fun n => rfl) ?_
    refine ij_ial rfl rfl rfl (b0 c1) ?_
    exact ij_ret 2 (none) (ij_SH, (ij_ui hi 47 3 (hi 30 (a1).toNatClampNeg)), hl, ij_HR) (fun n => rfl) (q0 c1)
  · skip
    refine ij_br 3 ((hi 47 7) < 0) 52 11 [some (.ref 47), some (.int a0), some (.int a1), some (.int a2)] [] (ij_SH, hi, hl, ij_HR) (fun n => rfl) (fun c2 => ?_) (fun c2 => ?_)
    · skip
      refine ij_go 5 61 [some (.ref 47), some (.int a0), some (.int a1), some (.int a2)] [.int a1, .ref 30, .ref 47] (ij_SH, hi, hl, ij_HR) (fun n => rfl) ?_
      refine ij_ial rfl rfl rfl (b1 c1 c2) ?_
      exact ij_ret 2 (none) (ij_SH, (ij_ui hi 47 3 (hi 30 (a1).toNatClampNeg)), hl, ij_HR) (fun n => rfl) (q1 c1 c2)
    · skip
      refine ij_br 4 (3 ≤ (hi 47 7)) 52 19 [some (.ref 47), some (.int a0), some (.int a1), some (.int a2)] [] (ij_SH, hi, hl, ij_HR) (fun n => rfl) (fun c3 => ?_) (fun c3 => ?_)
      · skip
        refine ij_go 5 61 [some (.ref 47), some (.int a0), some (.int a1), some (.int a2)] [.int a1, .ref 30, .ref 47] (ij_SH, hi, hl, ij_HR) (fun n => rfl) ?_
        refine ij_ial rfl rfl rfl (b2 c1 c2 c3) ?_
        exact ij_ret 2 (none) (ij_SH, (ij_ui hi 47 3 (hi 30 (a1).toNatClampNeg)), hl, ij_HR) (fun n => rfl) (q2 c1 c2 c3)
      · skip
        refine ij_go 5 28 [some (.ref 47), some (.int a0), some (.int a1), some (.int a2)] [.int a1, .int ((hi 47 7)), .ref 48] (ij_SH, hi, hl, ij_HR) (fun n => rfl) ?_
        refine ij_ias rfl rfl rfl (ij_bd c2 (Int32.not_le.mp c3) (by decide)) ?_
        refine ij_go 5 38 [some (.ref 47), some (.int a0), some (.int a1), some (.int a2)] [.int a2, .int ((hi 47 7)), .ref 49] (ij_SH, (ij_ui hi 48 ((hi 47 7)).toNatClampNeg a1), hl, ij_HR) (fun n => rfl) ?_
        refine ij_ias rfl rfl rfl (ij_bd c2 (Int32.not_le.mp c3) (by decide)) ?_
        exact ij_ret 8 (none) (ij_SH, (ij_ui (ij_ui (ij_ui hi 48 ((hi 47 7)).toNatClampNeg a1) 49 ((hi 47 7)).toNatClampNeg a2) 47 7 ((hi 47 7) + 1)), hl, ij_HR) (fun n => rfl) (q3 c1 c2 c3)
set_option maxRecDepth 10000 in
-- ScaleForge$Life.isSo(II)Z
theorem s329_40 {N : Nat} {xs : Nat → Int32} {hi : Nat → Nat → Int32} {hl : Nat → Nat → Int64} {Q : Option Value → ij_H → Prop} (a0 : Int32) (a1 : Int32) (q0 : (a0 = 0) → (a1 < 0) → Q (some (.int (0))) (ij_SH, hi, hl, ij_HR)) (q1 : (a0 = 0) → ¬ (a1 < 0) → (64 ≤ a1) → Q (some (.int (0))) (ij_SH, hi, hl, ij_HR)) (q2 : (a0 = 0) → ¬ (a1 < 0) → ¬ (64 ≤ a1) → ((lg_cmp ((((hl 23 3) : Int64).toUInt64 >>> ((a1 : Int32).toInt64.toUInt64 &&& Int64.toUInt64 63)).toInt64 &&& 1) 0) = 0) → Q (some (.int (0))) (ij_SH, hi, hl, ij_HR)) (q3 : (a0 = 0) → ¬ (a1 < 0) → ¬ (64 ≤ a1) → ¬ ((lg_cmp ((((hl 23 3) : Int64).toUInt64 >>> ((a1 : Int32).toInt64.toUInt64 &&& Int64.toUInt64 63)).toInt64 &&& 1) 0) = 0) → Q (some (.int (1))) (ij_SH, hi, hl, ij_HR)) (q4 : ¬ (a0 = 0) → (a0 = 1) → (a1 < 0) → Q (some (.int (0))) (ij_SH, hi, hl, ij_HR)) (q5 : ¬ (a0 = 0) → (a0 = 1) → ¬ (a1 < 0) → (64 ≤ a1) → Q (some (.int (0))) (ij_SH, hi, hl, ij_HR)) (q6 : ¬ (a0 = 0) → (a0 = 1) → ¬ (a1 < 0) → ¬ (64 ≤ a1) → ((lg_cmp ((((hl 23 4) : Int64).toUInt64 >>> ((a1 : Int32).toInt64.toUInt64 &&& Int64.toUInt64 63)).toInt64 &&& 1) 0) = 0) → Q (some (.int (0))) (ij_SH, hi, hl, ij_HR)) (q7 : ¬ (a0 = 0) → (a0 = 1) → ¬ (a1 < 0) → ¬ (64 ≤ a1) → ¬ ((lg_cmp ((((hl 23 4) : Int64).toUInt64 >>> ((a1 : Int32).toInt64.toUInt64 &&& Int64.toUInt64 63)).toInt64 &&& 1) 0) = 0) → Q (some (.int (1))) (ij_SH, hi, hl, ij_HR)) (q8 : ¬ (a0 = 0) → ¬ (a0 = 1) → (a0 = 2) → (a1 ≤ (ij_pc ((hl 23 3) &&& (hl 23 4)))) → Q (some (.int (0))) (ij_SH, hi, hl, ij_HR)) (q9 : ¬ (a0 = 0) → ¬ (a0 = 1) → (a0 = 2) → ¬ (a1 ≤ (ij_pc ((hl 23 3) &&& (hl 23 4)))) → Q (some (.int (1))) (ij_SH, hi, hl, ij_HR)) (q10 : ¬ (a0 = 0) → ¬ (a0 = 1) → ¬ (a0 = 2) → (a0 = 3) → ((ij_pc ((hl 23 3) &&& (hl 23 4))) ≤ a1) → Q (some (.int (0))) (ij_SH, hi, hl, ij_HR)) (q11 : ¬ (a0 = 0) → ¬ (a0 = 1) → ¬ (a0 = 2) → (a0 = 3) → ¬ ((ij_pc ((hl 23 3) &&& (hl 23 4))) ≤ a1) → Q (some (.int (1))) (ij_SH, hi, hl, ij_HR)) (q12 : ¬ (a0 = 0) → ¬ (a0 = 1) → ¬ (a0 = 2) → ¬ (a0 = 3) → ((ij_pc ((hl 23 3) &&& (hl 23 4))) = a1) → Q (some (.int (1))) (ij_SH, hi, hl, ij_HR)) (q13 : ¬ (a0 = 0) → ¬ (a0 = 1) → ¬ (a0 = 2) → ¬ (a0 = 3) → ¬ ((ij_pc ((hl 23 3) &&& (hl 23 4))) = a1) → Q (some (.int (0))) (ij_SH, hi, hl, ij_HR)) : ij_R (ij_xt N xs) 329 0 [some (.ref 40), some (.int a0), some (.int a1)] [] (ij_SH, hi, hl, ij_HR) Q := by
  refine ij_go 1 1 [some (.ref 40), some (.int a0), some (.int a1)] [.int a0] (ij_SH, hi, hl, ij_HR) (fun n => rfl) ?_
  by_cases c1 : a0 = 0
  · skip
    refine ij_tsw (x := a0) (v := 0) rfl c1 (tgt := 32) rfl ?_
    refine ij_call 5 74 [some (.long ((hl 23 3))), none, some (.int a1)] [] 43 [some (.ref 40), some (.int a0), some (.int a1)] (ij_SH, hi, hl, ij_HR) (fun n => rfl) (s74 (hl 23 3) a1 (fun c2 => ?_) (fun c3 c4 => ?_) (fun c5 c6 c7 => ?_) (fun c8 c9 c10 => ?_))
    · skip
      exact ij_ret 1 (some (.int (0))) (ij_SH, hi, hl, ij_HR) (fun n => rfl) (q0 c1 c2)
    · skip
      exact ij_ret 1 (some (.int (0))) (ij_SH, hi, hl, ij_HR) (fun n => rfl) (q1 c1 c3 c4)
    · skip
      exact ij_ret 1 (some (.int (0))) (ij_SH, hi, hl, ij_HR) (fun n => rfl) (q2 c1 c5 c6 c7)
    · skip
      exact ij_ret 1 (some (.int (1))) (ij_SH, hi, hl, ij_HR) (fun n => rfl) (q3 c1 c8 c9 c10)
  by_cases c11 : a0 = 1
  · skip
    refine ij_tsw (x := a0) (v := 1) rfl c11 (tgt := 44) rfl ?_
    refine ij_call 4 155 [some (.ref 23), some (.int a1)] [] 52 [some (.ref 40), some (.int a0), some (.int a1)] (ij_SH, hi, hl, ij_HR) (fun n => rfl) (s155_23 a1 (fun c12 => ?_) (fun c13 c14 => ?_) (fun c15 c16 c17 => ?_) (fun c18 c19 c20 => ?_))
    · skip
      exact ij_ret 1 (some (.int (0))) (ij_SH, hi, hl, ij_HR) (fun n => rfl) (q4 c1 c11 c12)
    · skip
      exact ij_ret 1 (some (.int (0))) (ij_SH, hi, hl, ij_HR) (fun n => rfl) (q5 c1 c11 c13 c14)
    · skip
      exact ij_ret 1 (some (.int (0))) (ij_SH, hi, hl, ij_HR) (fun n => rfl) (q6 c1 c11 c15 c16 c17)
    · skip
      exact ij_ret 1 (some (.int (1))) (ij_SH, hi, hl, ij_HR) (fun n => rfl) (q7 c1 c11 c18 c19 c20)
  by_cases c21 : a0 = 2
  · skip
    refine ij_tsw (x := a0) (v := 2) rfl c21 (tgt := 53) rfl ?_
    refine ij_call 3 189 [some (.ref 23)] [] 60 [some (.ref 40), some (.int a0), some (.int a1)] (ij_SH, hi, hl, ij_HR) (fun n => rfl) (s189_23  ?_)
    -- back
    refine ij_br 2 (a1 ≤ (ij_pc ((hl 23 3) &&& (hl 23 4)))) 68 64 [some (.ref 40), some (.int a0), some (.int a1)] [] (ij_SH, hi, hl, ij_HR) (fun n => rfl) (fun c22 => ?_) (fun c22 => ?_)
    · skip
      exact ij_ret 2 (some (.int (0))) (ij_SH, hi, hl, ij_HR) (fun n => rfl) (q8 c1 c11 c21 c22)
    · skip
      exact ij_ret 3 (some (.int (1))) (ij_SH, hi, hl, ij_HR) (fun n => rfl) (q9 c1 c11 c21 c22)
  by_cases c23 : a0 = 3
  · skip
    refine ij_tsw (x := a0) (v := 3) rfl c23 (tgt := 70) rfl ?_
    refine ij_call 3 189 [some (.ref 23)] [] 77 [some (.ref 40), some (.int a0), some (.int a1)] (ij_SH, hi, hl, ij_HR) (fun n => rfl) (s189_23  ?_)
    -- back
    refine ij_br 2 ((ij_pc ((hl 23 3) &&& (hl 23 4))) ≤ a1) 85 81 [some (.ref 40), some (.int a0), some (.int a1)] [] (ij_SH, hi, hl, ij_HR) (fun n => rfl) (fun c24 => ?_) (fun c24 => ?_)
    · skip
      exact ij_ret 2 (some (.int (0))) (ij_SH, hi, hl, ij_HR) (fun n => rfl) (q10 c1 c11 c21 c23 c24)
    · skip
      exact ij_ret 3 (some (.int (1))) (ij_SH, hi, hl, ij_HR) (fun n => rfl) (q11 c1 c11 c21 c23 c24)
  refine ij_tsd4 (x := a0) rfl c1 c11 c21 c23 (tgt := 87) rfl rfl rfl rfl rfl rfl ?_
  refine ij_call 3 189 [some (.ref 23)] [] 94 [some (.ref 40), some (.int a0), some (.int a1)] (ij_SH, hi, hl, ij_HR) (fun n => rfl) (s189_23  ?_)
  -- back
  refine ij_br 2 ((ij_pc ((hl 23 3) &&& (hl 23 4))) = a1) 98 102 [some (.ref 40), some (.int a0), some (.int a1)] [] (ij_SH, hi, hl, ij_HR) (fun n => rfl) (fun c25 => ?_) (fun c25 => ?_)
  · skip
    exact ij_ret 3 (some (.int (1))) (ij_SH, hi, hl, ij_HR) (fun n => rfl) (q12 c1 c11 c21 c23 c25)
  · skip
    exact ij_ret 2 (some (.int (0))) (ij_SH, hi, hl, ij_HR) (fun n => rfl) (q13 c1 c11 c21 c23 c25)
set_option maxRecDepth 10000 in
-- ScaleForge$Life.isSo(II)Z
theorem s329_47 {N : Nat} {xs : Nat → Int32} {hi : Nat → Nat → Int32} {hl : Nat → Nat → Int64} {Q : Option Value → ij_H → Prop} (a0 : Int32) (a1 : Int32) (q0 : (a0 = 0) → (a1 < 0) → Q (some (.int (0))) (ij_SH, hi, hl, ij_HR)) (q1 : (a0 = 0) → ¬ (a1 < 0) → (64 ≤ a1) → Q (some (.int (0))) (ij_SH, hi, hl, ij_HR)) (q2 : (a0 = 0) → ¬ (a1 < 0) → ¬ (64 ≤ a1) → ((lg_cmp ((((hl 44 3) : Int64).toUInt64 >>> ((a1 : Int32).toInt64.toUInt64 &&& Int64.toUInt64 63)).toInt64 &&& 1) 0) = 0) → Q (some (.int (0))) (ij_SH, hi, hl, ij_HR)) (q3 : (a0 = 0) → ¬ (a1 < 0) → ¬ (64 ≤ a1) → ¬ ((lg_cmp ((((hl 44 3) : Int64).toUInt64 >>> ((a1 : Int32).toInt64.toUInt64 &&& Int64.toUInt64 63)).toInt64 &&& 1) 0) = 0) → Q (some (.int (1))) (ij_SH, hi, hl, ij_HR)) (q4 : ¬ (a0 = 0) → (a0 = 1) → (a1 < 0) → Q (some (.int (0))) (ij_SH, hi, hl, ij_HR)) (q5 : ¬ (a0 = 0) → (a0 = 1) → ¬ (a1 < 0) → (64 ≤ a1) → Q (some (.int (0))) (ij_SH, hi, hl, ij_HR)) (q6 : ¬ (a0 = 0) → (a0 = 1) → ¬ (a1 < 0) → ¬ (64 ≤ a1) → ((lg_cmp ((((hl 44 4) : Int64).toUInt64 >>> ((a1 : Int32).toInt64.toUInt64 &&& Int64.toUInt64 63)).toInt64 &&& 1) 0) = 0) → Q (some (.int (0))) (ij_SH, hi, hl, ij_HR)) (q7 : ¬ (a0 = 0) → (a0 = 1) → ¬ (a1 < 0) → ¬ (64 ≤ a1) → ¬ ((lg_cmp ((((hl 44 4) : Int64).toUInt64 >>> ((a1 : Int32).toInt64.toUInt64 &&& Int64.toUInt64 63)).toInt64 &&& 1) 0) = 0) → Q (some (.int (1))) (ij_SH, hi, hl, ij_HR)) (q8 : ¬ (a0 = 0) → ¬ (a0 = 1) → (a0 = 2) → (a1 ≤ (ij_pc ((hl 44 3) &&& (hl 44 4)))) → Q (some (.int (0))) (ij_SH, hi, hl, ij_HR)) (q9 : ¬ (a0 = 0) → ¬ (a0 = 1) → (a0 = 2) → ¬ (a1 ≤ (ij_pc ((hl 44 3) &&& (hl 44 4)))) → Q (some (.int (1))) (ij_SH, hi, hl, ij_HR)) (q10 : ¬ (a0 = 0) → ¬ (a0 = 1) → ¬ (a0 = 2) → (a0 = 3) → ((ij_pc ((hl 44 3) &&& (hl 44 4))) ≤ a1) → Q (some (.int (0))) (ij_SH, hi, hl, ij_HR)) (q11 : ¬ (a0 = 0) → ¬ (a0 = 1) → ¬ (a0 = 2) → (a0 = 3) → ¬ ((ij_pc ((hl 44 3) &&& (hl 44 4))) ≤ a1) → Q (some (.int (1))) (ij_SH, hi, hl, ij_HR)) (q12 : ¬ (a0 = 0) → ¬ (a0 = 1) → ¬ (a0 = 2) → ¬ (a0 = 3) → ((ij_pc ((hl 44 3) &&& (hl 44 4))) = a1) → Q (some (.int (1))) (ij_SH, hi, hl, ij_HR)) (q13 : ¬ (a0 = 0) → ¬ (a0 = 1) → ¬ (a0 = 2) → ¬ (a0 = 3) → ¬ ((ij_pc ((hl 44 3) &&& (hl 44 4))) = a1) → Q (some (.int (0))) (ij_SH, hi, hl, ij_HR)) : ij_R (ij_xt N xs) 329 0 [some (.ref 47), some (.int a0), some (.int a1)] [] (ij_SH, hi, hl, ij_HR) Q := by
  refine ij_go 1 1 [some (.ref 47), some (.int a0), some (.int a1)] [.int a0] (ij_SH, hi, hl, ij_HR) (fun n => rfl) ?_
  by_cases c1 : a0 = 0
  · skip
    refine ij_tsw (x := a0) (v := 0) rfl c1 (tgt := 32) rfl ?_
    refine ij_call 5 74 [some (.long ((hl 44 3))), none, some (.int a1)] [] 43 [some (.ref 47), some (.int a0), some (.int a1)] (ij_SH, hi, hl, ij_HR) (fun n => rfl) (s74 (hl 44 3) a1 (fun c2 => ?_) (fun c3 c4 => ?_) (fun c5 c6 c7 => ?_) (fun c8 c9 c10 => ?_))
    · skip
      exact ij_ret 1 (some (.int (0))) (ij_SH, hi, hl, ij_HR) (fun n => rfl) (q0 c1 c2)
    · skip
      exact ij_ret 1 (some (.int (0))) (ij_SH, hi, hl, ij_HR) (fun n => rfl) (q1 c1 c3 c4)
    · skip
      exact ij_ret 1 (some (.int (0))) (ij_SH, hi, hl, ij_HR) (fun n => rfl) (q2 c1 c5 c6 c7)
    · skip
      exact ij_ret 1 (some (.int (1))) (ij_SH, hi, hl, ij_HR) (fun n => rfl) (q3 c1 c8 c9 c10)
  by_cases c11 : a0 = 1
  · skip
    refine ij_tsw (x := a0) (v := 1) rfl c11 (tgt := 44) rfl ?_
    refine ij_call 4 155 [some (.ref 44), some (.int a1)] [] 52 [some (.ref 47), some (.int a0), some (.int a1)] (ij_SH, hi, hl, ij_HR) (fun n => rfl) (s155_44 a1 (fun c12 => ?_) (fun c13 c14 => ?_) (fun c15 c16 c17 => ?_) (fun c18 c19 c20 => ?_))
    · skip
      exact ij_ret 1 (some (.int (0))) (ij_SH, hi, hl, ij_HR) (fun n => rfl) (q4 c1 c11 c12)
    · skip
      exact ij_ret 1 (some (.int (0))) (ij_SH, hi, hl, ij_HR) (fun n => rfl) (q5 c1 c11 c13 c14)
    · skip
      exact ij_ret 1 (some (.int (0))) (ij_SH, hi, hl, ij_HR) (fun n => rfl) (q6 c1 c11 c15 c16 c17)
    · skip
      exact ij_ret 1 (some (.int (1))) (ij_SH, hi, hl, ij_HR) (fun n => rfl) (q7 c1 c11 c18 c19 c20)
  by_cases c21 : a0 = 2
  · skip
    refine ij_tsw (x := a0) (v := 2) rfl c21 (tgt := 53) rfl ?_
    refine ij_call 3 189 [some (.ref 44)] [] 60 [some (.ref 47), some (.int a0), some (.int a1)] (ij_SH, hi, hl, ij_HR) (fun n => rfl) (s189_44  ?_)
    -- back
    refine ij_br 2 (a1 ≤ (ij_pc ((hl 44 3) &&& (hl 44 4)))) 68 64 [some (.ref 47), some (.int a0), some (.int a1)] [] (ij_SH, hi, hl, ij_HR) (fun n => rfl) (fun c22 => ?_) (fun c22 => ?_)
    · skip
      exact ij_ret 2 (some (.int (0))) (ij_SH, hi, hl, ij_HR) (fun n => rfl) (q8 c1 c11 c21 c22)
    · skip
      exact ij_ret 3 (some (.int (1))) (ij_SH, hi, hl, ij_HR) (fun n => rfl) (q9 c1 c11 c21 c22)
  by_cases c23 : a0 = 3
  · skip
    refine ij_tsw (x := a0) (v := 3) rfl c23 (tgt := 70) rfl ?_
    refine ij_call 3 189 [some (.ref 44)] [] 77 [some (.ref 47), some (.int a0), some (.int a1)] (ij_SH, hi, hl, ij_HR) (fun n => rfl) (s189_44  ?_)
    -- back
    refine ij_br 2 ((ij_pc ((hl 44 3) &&& (hl 44 4))) ≤ a1) 85 81 [some (.ref 47), some (.int a0), some (.int a1)] [] (ij_SH, hi, hl, ij_HR) (fun n => rfl) (fun c24 => ?_) (fun c24 => ?_)
    · skip
      exact ij_ret 2 (some (.int (0))) (ij_SH, hi, hl, ij_HR) (fun n => rfl) (q10 c1 c11 c21 c23 c24)
    · skip
      exact ij_ret 3 (some (.int (1))) (ij_SH, hi, hl, ij_HR) (fun n => rfl) (q11 c1 c11 c21 c23 c24)
  refine ij_tsd4 (x := a0) rfl c1 c11 c21 c23 (tgt := 87) rfl rfl rfl rfl rfl rfl ?_
  refine ij_call 3 189 [some (.ref 44)] [] 94 [some (.ref 47), some (.int a0), some (.int a1)] (ij_SH, hi, hl, ij_HR) (fun n => rfl) (s189_44  ?_)
  -- back
  refine ij_br 2 ((ij_pc ((hl 44 3) &&& (hl 44 4))) = a1) 98 102 [some (.ref 47), some (.int a0), some (.int a1)] [] (ij_SH, hi, hl, ij_HR) (fun n => rfl) (fun c25 => ?_) (fun c25 => ?_)
  · skip
    exact ij_ret 3 (some (.int (1))) (ij_SH, hi, hl, ij_HR) (fun n => rfl) (q12 c1 c11 c21 c23 c25)
  · skip
    exact ij_ret 2 (some (.int (0))) (ij_SH, hi, hl, ij_HR) (fun n => rfl) (q13 c1 c11 c21 c23 c25)
set_option maxRecDepth 10000 in
-- ScaleForgeModel.roots(I)Z
theorem s336_77 {N : Nat} {xs : Nat → Int32} {hi : Nat → Nat → Int32} {hl : Nat → Nat → Int64} {Q : Option Value → ij_H → Prop} (a0 : Int32) (q0 : (a0 < 0) → Q (some (.int (0))) (ij_SH, hi, hl, ij_HR)) (q1 : ¬ (a0 < 0) → ((hi 78 1) ≤ a0) → Q (some (.int (0))) (ij_SH, hi, hl, ij_HR)) (q2 : ¬ (a0 < 0) → ¬ ((hi 78 1) ≤ a0) → ((hi 78 5) = a0) → Q (some (.int (0))) (ij_SH, hi, hl, ij_HR)) (q3 : ¬ (a0 < 0) → ¬ ((hi 78 1) ≤ a0) → ¬ ((hi 78 5) = a0) → Q (some (.int (1))) (ij_SH, (ij_ui hi 78 5 a0), hl, ij_HR)) : ij_R (ij_xt N xs) 336 0 [some (.ref 77), some (.int a0)] [] (ij_SH, hi, hl, ij_HR) Q := by
  refine ij_call 3 158 [some (.ref 77), some (.int a0)] [] 5 [some (.ref 77), some (.int a0)] (ij_SH, hi, hl, ij_HR) (fun n => rfl) (s158_77 a0 (fun c1 => ?_) (fun c2 c3 => ?_) (fun c4 c5 => ?_))
  · skip
    exact ij_ret 3 (some (.int (0))) (ij_SH, hi, hl, ij_HR) (fun n => rfl) (q0 c1)
  · skip
    exact ij_ret 3 (some (.int (0))) (ij_SH, hi, hl, ij_HR) (fun n => rfl) (q1 c2 c3)
  · skip
    refine ij_br 7 ((hi 78 5) = a0) 18 20 [some (.ref 77), some (.int a0)] [] (ij_SH, hi, hl, ij_HR) (fun n => rfl) (fun c6 => ?_) (fun c6 => ?_)
    · skip
      exact ij_ret 2 (some (.int (0))) (ij_SH, hi, hl, ij_HR) (fun n => rfl) (q2 c4 c5 c6)
    · skip
      exact ij_ret 7 (some (.int (1))) (ij_SH, (ij_ui hi 78 5 a0), hl, ij_HR) (fun n => rfl) (q3 c4 c5 c6)
set_option maxRecDepth 10000 in
-- ScaleForgeModel.draw(I)I
theorem s338_77 {N : Nat} {xs : Nat → Int32} {hi : Nat → Nat → Int32} {hl : Nat → Nat → Int64} {Q : Option Value → ij_H → Prop} (a0 : Int32) (b0 : ¬ (a0 = 0)) (q0 : Q (some (.int (((((((hi 77 43) * 3293) + 11527) - (((hi 77 43) * 3293) + 11527) / 65536 * 65536) / 8) - (((((hi 77 43) * 3293) + 11527) - (((hi 77 43) * 3293) + 11527) / 65536 * 65536) / 8) / a0 * a0)))) (ij_SH, (ij_ui hi 77 43 ((((hi 77 43) * 3293) + 11527) - (((hi 77 43) * 3293) + 11527) / 65536 * 65536)), hl, ij_HR)) : ij_R (ij_xt N xs) 338 0 [some (.ref 77), some (.int a0)] [] (ij_SH, hi, hl, ij_HR) Q := by
  refine ij_go 15 28 [some (.ref 77), some (.int a0)] [.int a0, .int ((((((hi 77 43) * 3293) + 11527) - (((hi 77 43) * 3293) + 11527) / 65536 * 65536) / 8))] (ij_SH, (ij_ui hi 77 43 ((((hi 77 43) * 3293) + 11527) - (((hi 77 43) * 3293) + 11527) / 65536 * 65536)), hl, ij_HR) (fun n => rfl) ?_
  refine ij_irem rfl (b0) ?_
  exact ij_ret 1 (some (.int (((((((hi 77 43) * 3293) + 11527) - (((hi 77 43) * 3293) + 11527) / 65536 * 65536) / 8) - (((((hi 77 43) * 3293) + 11527) - (((hi 77 43) * 3293) + 11527) / 65536 * 65536) / 8) / a0 * a0)))) (ij_SH, (ij_ui hi 77 43 ((((hi 77 43) * 3293) + 11527) - (((hi 77 43) * 3293) + 11527) / 65536 * 65536)), hl, ij_HR) (fun n => rfl) (q0)
set_option maxRecDepth 10000 in
-- ScaleForgeModel.letsGo()V
theorem s341_77 {N : Nat} {xs : Nat → Int32} {hi : Nat → Nat → Int32} {hl : Nat → Nat → Int64} {Q : Option Value → ij_H → Prop} (b0 : ¬ (((hi 77 45) - 1) < 0 ∨ 4 ≤ (((hi 77 45) - 1) : Int32).toNatClampNeg)) (b1 : ¬ ((hi 103 (((hi 77 45) - 1)).toNatClampNeg) < 0) → ¬ ((hi 78 1) ≤ (hi 103 (((hi 77 45) - 1)).toNatClampNeg)) → ¬ ((20 + (hi 103 (((hi 77 45) - 1)).toNatClampNeg)) < 0 ∨ 2392 ≤ ((20 + (hi 103 (((hi 77 45) - 1)).toNatClampNeg)) : Int32).toNatClampNeg)) (b2 : ¬ ((hi 103 (((hi 77 45) - 1)).toNatClampNeg) < 0) → ¬ ((hi 78 1) ≤ (hi 103 (((hi 77 45) - 1)).toNatClampNeg)) → ¬ ((hi 78 ((20 + (hi 103 (((hi 77 45) - 1)).toNatClampNeg))).toNatClampNeg) = 0) → ¬ ((20 + (hi 103 (((hi 77 45) - 1)).toNatClampNeg)) < 0 ∨ 2392 ≤ ((20 + (hi 103 (((hi 77 45) - 1)).toNatClampNeg)) : Int32).toNatClampNeg)) (b3 : ((hi 103 (((hi 77 45) - 1)).toNatClampNeg) < 0) → ¬ ((hi 77 46) = 60) → ¬ ((hi 77 46) < 0 ∨ 60 ≤ ((hi 77 46) : Int32).toNatClampNeg)) (b4 : ¬ ((hi 103 (((hi 77 45) - 1)).toNatClampNeg) < 0) → ((hi 78 1) ≤ (hi 103 (((hi 77 45) - 1)).toNatClampNeg)) → ¬ ((hi 77 46) = 60) → ¬ ((hi 77 46) < 0 ∨ 60 ≤ ((hi 77 46) : Int32).toNatClampNeg)) (b5 : ¬ ((hi 103 (((hi 77 45) - 1)).toNatClampNeg) < 0) → ¬ ((hi 78 1) ≤ (hi 103 (((hi 77 45) - 1)).toNatClampNeg)) → ((hi 78 ((20 + (hi 103 (((hi 77 45) - 1)).toNatClampNeg))).toNatClampNeg) = 0) → ¬ ((hi 77 46) = 60) → ¬ ((hi 77 46) < 0 ∨ 60 ≤ ((hi 77 46) : Int32).toNatClampNeg)) (b6 : ¬ ((hi 103 (((hi 77 45) - 1)).toNatClampNeg) < 0) → ¬ ((hi 78 1) ≤ (hi 103 (((hi 77 45) - 1)).toNatClampNeg)) → ¬ ((hi 78 ((20 + (hi 103 (((hi 77 45) - 1)).toNatClampNeg))).toNatClampNeg) = 0) → ¬ ((hi 77 46) = 60) → ¬ ((hi 77 46) < 0 ∨ 60 ≤ ((hi 77 46) : Int32).toNatClampNeg)) (q0 : ((hi 103 (((hi 77 45) - 1)).toNatClampNeg) < 0) → ((hi 77 46) = 60) → Q (none) (ij_SH, (ij_ui (ij_ui hi 77 45 ((hi 77 45) - 1)) 101 3 ((hi 101 3) + 1)), hl, ij_HR)) (q1 : ((hi 103 (((hi 77 45) - 1)).toNatClampNeg) < 0) → ¬ ((hi 77 46) = 60) → Q (none) (ij_SH, (ij_ui (ij_ui (ij_ui (ij_ui hi 77 45 ((hi 77 45) - 1)) 101 3 ((hi 101 3) + 1)) 104 ((hi 77 46)).toNatClampNeg (hi 103 (((hi 77 45) - 1)).toNatClampNeg)) 77 46 ((hi 77 46) + 1)), hl, ij_HR)) (q2 : ¬ ((hi 103 (((hi 77 45) - 1)).toNatClampNeg) < 0) → ((hi 78 1) ≤ (hi 103 (((hi 77 45) - 1)).toNatClampNeg)) → ((hi 77 46) = 60) → Q (none) (ij_SH, (ij_ui (ij_ui hi 77 45 ((hi 77 45) - 1)) 101 3 ((hi 101 3) + 1)), hl, ij_HR)) (q3 : ¬ ((hi 103 (((hi 77 45) - 1)).toNatClampNeg) < 0) → ((hi 78 1) ≤ (hi 103 (((hi 77 45) - 1)).toNatClampNeg)) → ¬ ((hi 77 46) = 60) → Q (none) (ij_SH, (ij_ui (ij_ui (ij_ui (ij_ui hi 77 45 ((hi 77 45) - 1)) 101 3 ((hi 101 3) + 1)) 104 ((hi 77 46)).toNatClampNeg (hi 103 (((hi 77 45) - 1)).toNatClampNeg)) 77 46 ((hi 77 46) + 1)), hl, ij_HR)) (q4 : ¬ ((hi 103 (((hi 77 45) - 1)).toNatClampNeg) < 0) → ¬ ((hi 78 1) ≤ (hi 103 (((hi 77 45) - 1)).toNatClampNeg)) → ((hi 78 ((20 + (hi 103 (((hi 77 45) - 1)).toNatClampNeg))).toNatClampNeg) = 0) → ((hi 77 46) = 60) → Q (none) (ij_SH, (ij_ui (ij_ui hi 77 45 ((hi 77 45) - 1)) 101 3 ((hi 101 3) + 1)), hl, ij_HR)) (q5 : ¬ ((hi 103 (((hi 77 45) - 1)).toNatClampNeg) < 0) → ¬ ((hi 78 1) ≤ (hi 103 (((hi 77 45) - 1)).toNatClampNeg)) → ((hi 78 ((20 + (hi 103 (((hi 77 45) - 1)).toNatClampNeg))).toNatClampNeg) = 0) → ¬ ((hi 77 46) = 60) → Q (none) (ij_SH, (ij_ui (ij_ui (ij_ui (ij_ui hi 77 45 ((hi 77 45) - 1)) 101 3 ((hi 101 3) + 1)) 104 ((hi 77 46)).toNatClampNeg (hi 103 (((hi 77 45) - 1)).toNatClampNeg)) 77 46 ((hi 77 46) + 1)), hl, ij_HR)) (q6 : ¬ ((hi 103 (((hi 77 45) - 1)).toNatClampNeg) < 0) → ¬ ((hi 78 1) ≤ (hi 103 (((hi 77 45) - 1)).toNatClampNeg)) → ¬ ((hi 78 ((20 + (hi 103 (((hi 77 45) - 1)).toNatClampNeg))).toNatClampNeg) = 0) → ((hi 77 46) = 60) → Q (none) (ij_SH, (ij_ui (ij_ui (ij_ui hi 77 45 ((hi 77 45) - 1)) 78 ((20 + (hi 103 (((hi 77 45) - 1)).toNatClampNeg))).toNatClampNeg 0) 101 3 ((hi 101 3) + 1)), hl, ij_HR)) (q7 : ¬ ((hi 103 (((hi 77 45) - 1)).toNatClampNeg) < 0) → ¬ ((hi 78 1) ≤ (hi 103 (((hi 77 45) - 1)).toNatClampNeg)) → ¬ ((hi 78 ((20 + (hi 103 (((hi 77 45) - 1)).toNatClampNeg))).toNatClampNeg) = 0) → ¬ ((hi 77 46) = 60) → Q (none) (ij_SH, (ij_ui (ij_ui (ij_ui (ij_ui (ij_ui hi 77 45 ((hi 77 45) - 1)) 78 ((20 + (hi 103 (((hi 77 45) - 1)).toNatClampNeg))).toNatClampNeg 0) 101 3 ((hi 101 3) + 1)) 104 ((hi 77 46)).toNatClampNeg (hi 103 (((hi 77 45) - 1)).toNatClampNeg)) 77 46 ((hi 77 46) + 1)), hl, ij_HR)) : ij_R (ij_xt N xs) 341 0 [some (.ref 77), none] [] (ij_SH, hi, hl, ij_HR) Q := by
  refine ij_go 10 18 [some (.ref 77), none] [.int (((hi 77 45) - 1)), .ref 103] (ij_SH, (ij_ui hi 77 45 ((hi 77 45) - 1)), hl, ij_HR) (fun n => rfl) ?_
  refine ij_ial rfl rfl rfl (b0) ?_
  refine ij_call 4 184 [some (.ref 77), some (.int ((hi 103 (((hi 77 45) - 1)).toNatClampNeg)))] [] 25 [some (.ref 77), some (.int ((hi 103 (((hi 77 45) - 1)).toNatClampNeg)))] (ij_SH, (ij_ui hi 77 45 ((hi 77 45) - 1)), hl, ij_HR) (fun n => rfl) (s184_77 (hi 103 (((hi 77 45) - 1)).toNatClampNeg) (fun c1 c2 => (b1 c1 c2)) (fun c3 c4 c5 => (b2 c3 c4 c5)) (fun c6 => ?_) (fun c7 c8 => ?_) (fun c9 c10 c11 => ?_) (fun c12 c13 c14 => ?_))
  · skip
    refine ij_br 13 ((hi 77 46) = 60) 45 46 [some (.ref 77), some (.int ((hi 103 (((hi 77 45) - 1)).toNatClampNeg)))] [] (ij_SH, (ij_ui (ij_ui hi 77 45 ((hi 77 45) - 1)) 101 3 ((hi 101 3) + 1)), hl, ij_HR) (fun n => rfl) (fun c15 => ?_) (fun c15 => ?_)
    · skip
      exact ij_ret 1 (none) (ij_SH, (ij_ui (ij_ui hi 77 45 ((hi 77 45) - 1)) 101 3 ((hi 101 3) + 1)), hl, ij_HR) (fun n => rfl) (q0 c6 c15)
    · skip
      refine ij_go 5 55 [some (.ref 77), some (.int ((hi 103 (((hi 77 45) - 1)).toNatClampNeg)))] [.int ((hi 103 (((hi 77 45) - 1)).toNatClampNeg)), .int ((hi 77 46)), .ref 104] (ij_SH, (ij_ui (ij_ui hi 77 45 ((hi 77 45) - 1)) 101 3 ((hi 101 3) + 1)), hl, ij_HR) (fun n => rfl) ?_
      refine ij_ias rfl rfl rfl (b3 c6 c15) ?_
      exact ij_ret 7 (none) (ij_SH, (ij_ui (ij_ui (ij_ui (ij_ui hi 77 45 ((hi 77 45) - 1)) 101 3 ((hi 101 3) + 1)) 104 ((hi 77 46)).toNatClampNeg (hi 103 (((hi 77 45) - 1)).toNatClampNeg)) 77 46 ((hi 77 46) + 1)), hl, ij_HR) (fun n => rfl) (q1 c6 c15)
  · skip
    refine ij_br 13 ((hi 77 46) = 60) 45 46 [some (.ref 77), some (.int ((hi 103 (((hi 77 45) - 1)).toNatClampNeg)))] [] (ij_SH, (ij_ui (ij_ui hi 77 45 ((hi 77 45) - 1)) 101 3 ((hi 101 3) + 1)), hl, ij_HR) (fun n => rfl) (fun c16 => ?_) (fun c16 => ?_)
    · skip
      exact ij_ret 1 (none) (ij_SH, (ij_ui (ij_ui hi 77 45 ((hi 77 45) - 1)) 101 3 ((hi 101 3) + 1)), hl, ij_HR) (fun n => rfl) (q2 c7 c8 c16)
    · skip
      refine ij_go 5 55 [some (.ref 77), some (.int ((hi 103 (((hi 77 45) - 1)).toNatClampNeg)))] [.int ((hi 103 (((hi 77 45) - 1)).toNatClampNeg)), .int ((hi 77 46)), .ref 104] (ij_SH, (ij_ui (ij_ui hi 77 45 ((hi 77 45) - 1)) 101 3 ((hi 101 3) + 1)), hl, ij_HR) (fun n => rfl) ?_
      refine ij_ias rfl rfl rfl (b4 c7 c8 c16) ?_
      exact ij_ret 7 (none) (ij_SH, (ij_ui (ij_ui (ij_ui (ij_ui hi 77 45 ((hi 77 45) - 1)) 101 3 ((hi 101 3) + 1)) 104 ((hi 77 46)).toNatClampNeg (hi 103 (((hi 77 45) - 1)).toNatClampNeg)) 77 46 ((hi 77 46) + 1)), hl, ij_HR) (fun n => rfl) (q3 c7 c8 c16)
  · skip
    refine ij_br 13 ((hi 77 46) = 60) 45 46 [some (.ref 77), some (.int ((hi 103 (((hi 77 45) - 1)).toNatClampNeg)))] [] (ij_SH, (ij_ui (ij_ui hi 77 45 ((hi 77 45) - 1)) 101 3 ((hi 101 3) + 1)), hl, ij_HR) (fun n => rfl) (fun c17 => ?_) (fun c17 => ?_)
    · skip
      exact ij_ret 1 (none) (ij_SH, (ij_ui (ij_ui hi 77 45 ((hi 77 45) - 1)) 101 3 ((hi 101 3) + 1)), hl, ij_HR) (fun n => rfl) (q4 c9 c10 c11 c17)
    · skip
      refine ij_go 5 55 [some (.ref 77), some (.int ((hi 103 (((hi 77 45) - 1)).toNatClampNeg)))] [.int ((hi 103 (((hi 77 45) - 1)).toNatClampNeg)), .int ((hi 77 46)), .ref 104] (ij_SH, (ij_ui (ij_ui hi 77 45 ((hi 77 45) - 1)) 101 3 ((hi 101 3) + 1)), hl, ij_HR) (fun n => rfl) ?_
      refine ij_ias rfl rfl rfl (b5 c9 c10 c11 c17) ?_
      exact ij_ret 7 (none) (ij_SH, (ij_ui (ij_ui (ij_ui (ij_ui hi 77 45 ((hi 77 45) - 1)) 101 3 ((hi 101 3) + 1)) 104 ((hi 77 46)).toNatClampNeg (hi 103 (((hi 77 45) - 1)).toNatClampNeg)) 77 46 ((hi 77 46) + 1)), hl, ij_HR) (fun n => rfl) (q5 c9 c10 c11 c17)
  · skip
    refine ij_br 13 ((hi 77 46) = 60) 45 46 [some (.ref 77), some (.int ((hi 103 (((hi 77 45) - 1)).toNatClampNeg)))] [] (ij_SH, (ij_ui (ij_ui (ij_ui hi 77 45 ((hi 77 45) - 1)) 78 ((20 + (hi 103 (((hi 77 45) - 1)).toNatClampNeg))).toNatClampNeg 0) 101 3 ((hi 101 3) + 1)), hl, ij_HR) (fun n => rfl) (fun c18 => ?_) (fun c18 => ?_)
    · skip
      exact ij_ret 1 (none) (ij_SH, (ij_ui (ij_ui (ij_ui hi 77 45 ((hi 77 45) - 1)) 78 ((20 + (hi 103 (((hi 77 45) - 1)).toNatClampNeg))).toNatClampNeg 0) 101 3 ((hi 101 3) + 1)), hl, ij_HR) (fun n => rfl) (q6 c12 c13 c14 c18)
    · skip
      refine ij_go 5 55 [some (.ref 77), some (.int ((hi 103 (((hi 77 45) - 1)).toNatClampNeg)))] [.int ((hi 103 (((hi 77 45) - 1)).toNatClampNeg)), .int ((hi 77 46)), .ref 104] (ij_SH, (ij_ui (ij_ui (ij_ui hi 77 45 ((hi 77 45) - 1)) 78 ((20 + (hi 103 (((hi 77 45) - 1)).toNatClampNeg))).toNatClampNeg 0) 101 3 ((hi 101 3) + 1)), hl, ij_HR) (fun n => rfl) ?_
      refine ij_ias rfl rfl rfl (b6 c12 c13 c14 c18) ?_
      exact ij_ret 7 (none) (ij_SH, (ij_ui (ij_ui (ij_ui (ij_ui (ij_ui hi 77 45 ((hi 77 45) - 1)) 78 ((20 + (hi 103 (((hi 77 45) - 1)).toNatClampNeg))).toNatClampNeg 0) 101 3 ((hi 101 3) + 1)) 104 ((hi 77 46)).toNatClampNeg (hi 103 (((hi 77 45) - 1)).toNatClampNeg)) 77 46 ((hi 77 46) + 1)), hl, ij_HR) (fun n => rfl) (q7 c12 c13 c14 c18)
set_option maxRecDepth 10000 in
-- ScaleForge$Life.count(I)I
theorem s347_40 {N : Nat} {xs : Nat → Int32} {hi : Nat → Nat → Int32} {hl : Nat → Nat → Int64} {Q : Option Value → ij_H → Prop} (a0 : Int32) (q0 : (a0 = 0) → Q (some (.int ((hi 40 10)))) (ij_SH, hi, hl, ij_HR)) (q1 : ¬ (a0 = 0) → (a0 = 1) → Q (some (.int ((hi 40 11)))) (ij_SH, hi, hl, ij_HR)) (q2 : ¬ (a0 = 0) → ¬ (a0 = 1) → (a0 = 2) → Q (some (.int ((hi 40 12)))) (ij_SH, hi, hl, ij_HR)) (q3 : ¬ (a0 = 0) → ¬ (a0 = 1) → ¬ (a0 = 2) → (a0 = 3) → Q (some (.int ((hi 40 13)))) (ij_SH, hi, hl, ij_HR)) (q4 : ¬ (a0 = 0) → ¬ (a0 = 1) → ¬ (a0 = 2) → ¬ (a0 = 3) → ((hi 40 14) = 0) → Q (some (.int (0))) (ij_SH, hi, hl, ij_HR)) (q5 : ¬ (a0 = 0) → ¬ (a0 = 1) → ¬ (a0 = 2) → ¬ (a0 = 3) → ¬ ((hi 40 14) = 0) → Q (some (.int (1))) (ij_SH, hi, hl, ij_HR)) : ij_R (ij_xt N xs) 347 0 [some (.ref 40), some (.int a0)] [] (ij_SH, hi, hl, ij_HR) Q := by
  refine ij_go 1 1 [some (.ref 40), some (.int a0)] [.int a0] (ij_SH, hi, hl, ij_HR) (fun n => rfl) ?_
  by_cases c1 : a0 = 0
  · skip
    refine ij_tsw (x := a0) (v := 0) rfl c1 (tgt := 32) rfl ?_
    exact ij_ret 3 (some (.int ((hi 40 10)))) (ij_SH, hi, hl, ij_HR) (fun n => rfl) (q0 c1)
  by_cases c2 : a0 = 1
  · skip
    refine ij_tsw (x := a0) (v := 1) rfl c2 (tgt := 37) rfl ?_
    exact ij_ret 3 (some (.int ((hi 40 11)))) (ij_SH, hi, hl, ij_HR) (fun n => rfl) (q1 c1 c2)
  by_cases c3 : a0 = 2
  · skip
    refine ij_tsw (x := a0) (v := 2) rfl c3 (tgt := 42) rfl ?_
    exact ij_ret 3 (some (.int ((hi 40 12)))) (ij_SH, hi, hl, ij_HR) (fun n => rfl) (q2 c1 c2 c3)
  by_cases c4 : a0 = 3
  · skip
    refine ij_tsw (x := a0) (v := 3) rfl c4 (tgt := 47) rfl ?_
    exact ij_ret 3 (some (.int ((hi 40 13)))) (ij_SH, hi, hl, ij_HR) (fun n => rfl) (q3 c1 c2 c3 c4)
  refine ij_tsd4 (x := a0) rfl c1 c2 c3 c4 (tgt := 52) rfl rfl rfl rfl rfl rfl ?_
  refine ij_br 3 ((hi 40 14) = 0) 63 59 [some (.ref 40), some (.int a0)] [] (ij_SH, hi, hl, ij_HR) (fun n => rfl) (fun c5 => ?_) (fun c5 => ?_)
  · skip
    exact ij_ret 2 (some (.int (0))) (ij_SH, hi, hl, ij_HR) (fun n => rfl) (q4 c1 c2 c3 c4 c5)
  · skip
    exact ij_ret 3 (some (.int (1))) (ij_SH, hi, hl, ij_HR) (fun n => rfl) (q5 c1 c2 c3 c4 c5)
def f347_40 (a0 : Int32) (hi : Nat → Nat → Int32) (hl : Nat → Nat → Int64) : Int32 := if a0 = 0 then ((hi 40 10)) else (if a0 = 1 then ((hi 40 11)) else (if a0 = 2 then ((hi 40 12)) else (if a0 = 3 then ((hi 40 13)) else (if (hi 40 14) = 0 then (0) else (1)))))
theorem t347_40 {N : Nat} {xs : Nat → Int32} {hi : Nat → Nat → Int32} {hl : Nat → Nat → Int64} {Q : Option Value → ij_H → Prop} (a0 : Int32) (q : Q (some (.int (f347_40 a0 hi hl))) (ij_SH, hi, hl, ij_HR)) : ij_R (ij_xt N xs) 347 0 [some (.ref 40), some (.int a0)] [] (ij_SH, hi, hl, ij_HR) Q :=
  s347_40 a0 (fun k0 => by rw [f347_40, if_pos k0] at q; exact q) (fun k0 k1 => by rw [f347_40, if_neg k0, if_pos k1] at q; exact q) (fun k0 k1 k2 => by rw [f347_40, if_neg k0, if_neg k1, if_pos k2] at q; exact q) (fun k0 k1 k2 k3 => by rw [f347_40, if_neg k0, if_neg k1, if_neg k2, if_pos k3] at q; exact q) (fun k0 k1 k2 k3 k4 => by rw [f347_40, if_neg k0, if_neg k1, if_neg k2, if_neg k3, if_pos k4] at q; exact q) (fun k0 k1 k2 k3 k4 => by rw [f347_40, if_neg k0, if_neg k1, if_neg k2, if_neg k3, if_neg k4] at q; exact q)
set_option maxRecDepth 10000 in
-- ScaleForge$Life.count(I)I
theorem s347_47 {N : Nat} {xs : Nat → Int32} {hi : Nat → Nat → Int32} {hl : Nat → Nat → Int64} {Q : Option Value → ij_H → Prop} (a0 : Int32) (q0 : (a0 = 0) → Q (some (.int ((hi 47 10)))) (ij_SH, hi, hl, ij_HR)) (q1 : ¬ (a0 = 0) → (a0 = 1) → Q (some (.int ((hi 47 11)))) (ij_SH, hi, hl, ij_HR)) (q2 : ¬ (a0 = 0) → ¬ (a0 = 1) → (a0 = 2) → Q (some (.int ((hi 47 12)))) (ij_SH, hi, hl, ij_HR)) (q3 : ¬ (a0 = 0) → ¬ (a0 = 1) → ¬ (a0 = 2) → (a0 = 3) → Q (some (.int ((hi 47 13)))) (ij_SH, hi, hl, ij_HR)) (q4 : ¬ (a0 = 0) → ¬ (a0 = 1) → ¬ (a0 = 2) → ¬ (a0 = 3) → ((hi 47 14) = 0) → Q (some (.int (0))) (ij_SH, hi, hl, ij_HR)) (q5 : ¬ (a0 = 0) → ¬ (a0 = 1) → ¬ (a0 = 2) → ¬ (a0 = 3) → ¬ ((hi 47 14) = 0) → Q (some (.int (1))) (ij_SH, hi, hl, ij_HR)) : ij_R (ij_xt N xs) 347 0 [some (.ref 47), some (.int a0)] [] (ij_SH, hi, hl, ij_HR) Q := by
  refine ij_go 1 1 [some (.ref 47), some (.int a0)] [.int a0] (ij_SH, hi, hl, ij_HR) (fun n => rfl) ?_
  by_cases c1 : a0 = 0
  · skip
    refine ij_tsw (x := a0) (v := 0) rfl c1 (tgt := 32) rfl ?_
    exact ij_ret 3 (some (.int ((hi 47 10)))) (ij_SH, hi, hl, ij_HR) (fun n => rfl) (q0 c1)
  by_cases c2 : a0 = 1
  · skip
    refine ij_tsw (x := a0) (v := 1) rfl c2 (tgt := 37) rfl ?_
    exact ij_ret 3 (some (.int ((hi 47 11)))) (ij_SH, hi, hl, ij_HR) (fun n => rfl) (q1 c1 c2)
  by_cases c3 : a0 = 2
  · skip
    refine ij_tsw (x := a0) (v := 2) rfl c3 (tgt := 42) rfl ?_
    exact ij_ret 3 (some (.int ((hi 47 12)))) (ij_SH, hi, hl, ij_HR) (fun n => rfl) (q2 c1 c2 c3)
  by_cases c4 : a0 = 3
  · skip
    refine ij_tsw (x := a0) (v := 3) rfl c4 (tgt := 47) rfl ?_
    exact ij_ret 3 (some (.int ((hi 47 13)))) (ij_SH, hi, hl, ij_HR) (fun n => rfl) (q3 c1 c2 c3 c4)
  refine ij_tsd4 (x := a0) rfl c1 c2 c3 c4 (tgt := 52) rfl rfl rfl rfl rfl rfl ?_
  refine ij_br 3 ((hi 47 14) = 0) 63 59 [some (.ref 47), some (.int a0)] [] (ij_SH, hi, hl, ij_HR) (fun n => rfl) (fun c5 => ?_) (fun c5 => ?_)
  · skip
    exact ij_ret 2 (some (.int (0))) (ij_SH, hi, hl, ij_HR) (fun n => rfl) (q4 c1 c2 c3 c4 c5)
  · skip
    exact ij_ret 3 (some (.int (1))) (ij_SH, hi, hl, ij_HR) (fun n => rfl) (q5 c1 c2 c3 c4 c5)
def f347_47 (a0 : Int32) (hi : Nat → Nat → Int32) (hl : Nat → Nat → Int64) : Int32 := if a0 = 0 then ((hi 47 10)) else (if a0 = 1 then ((hi 47 11)) else (if a0 = 2 then ((hi 47 12)) else (if a0 = 3 then ((hi 47 13)) else (if (hi 47 14) = 0 then (0) else (1)))))
theorem t347_47 {N : Nat} {xs : Nat → Int32} {hi : Nat → Nat → Int32} {hl : Nat → Nat → Int64} {Q : Option Value → ij_H → Prop} (a0 : Int32) (q : Q (some (.int (f347_47 a0 hi hl))) (ij_SH, hi, hl, ij_HR)) : ij_R (ij_xt N xs) 347 0 [some (.ref 47), some (.int a0)] [] (ij_SH, hi, hl, ij_HR) Q :=
  s347_47 a0 (fun k0 => by rw [f347_47, if_pos k0] at q; exact q) (fun k0 k1 => by rw [f347_47, if_neg k0, if_pos k1] at q; exact q) (fun k0 k1 k2 => by rw [f347_47, if_neg k0, if_neg k1, if_pos k2] at q; exact q) (fun k0 k1 k2 k3 => by rw [f347_47, if_neg k0, if_neg k1, if_neg k2, if_pos k3] at q; exact q) (fun k0 k1 k2 k3 k4 => by rw [f347_47, if_neg k0, if_neg k1, if_neg k2, if_neg k3, if_pos k4] at q; exact q) (fun k0 k1 k2 k3 k4 => by rw [f347_47, if_neg k0, if_neg k1, if_neg k2, if_neg k3, if_neg k4] at q; exact q)
set_option maxRecDepth 10000 in
-- ScaleForge.lived(I)I
theorem s348_0 {N : Nat} {xs : Nat → Int32} {hi : Nat → Nat → Int32} {hl : Nat → Nat → Int64} {Q : Option Value → ij_H → Prop} (a0 : Int32) (q0 : (a0 < 0) → Q (some (.int ((-1)))) (ij_SH, (ij_ui hi 0 0 1), hl, ij_HR)) (q1 : ¬ (a0 < 0) → (a0 ≤ 4) → ((hi 40 8) = 0) → Q (some (.int ((-1)))) (ij_SH, (ij_ui hi 0 0 6), hl, ij_HR)) (q2 : ¬ (a0 < 0) → (a0 ≤ 4) → ¬ ((hi 40 8) = 0) → Q (some (.int ((f347_40 a0 hi hl)))) (ij_SH, (ij_ui hi 0 0 0), hl, ij_HR)) (q3 : ¬ (a0 < 0) → ¬ (a0 ≤ 4) → Q (some (.int ((-1)))) (ij_SH, (ij_ui hi 0 0 1), hl, ij_HR)) : ij_R (ij_xt N xs) 348 0 [some (.ref 0), some (.int a0)] [] (ij_SH, hi, hl, ij_HR) Q := by
  refine ij_br 2 (a0 < 0) 9 4 [some (.ref 0), some (.int a0)] [] (ij_SH, hi, hl, ij_HR) (fun n => rfl) (fun c1 => ?_) (fun c1 => ?_)
  · skip
    refine ij_call 3 44 [some (.ref 0), some (.int (1))] [] 14 [some (.ref 0), some (.int a0)] (ij_SH, hi, hl, ij_HR) (fun n => rfl) (s44_0 1 ?_)
    -- back
    exact ij_ret 1 (some (.int ((-1)))) (ij_SH, (ij_ui hi 0 0 1), hl, ij_HR) (fun n => rfl) (q0 c1)
  · skip
    refine ij_br 3 (a0 ≤ 4) 15 9 [some (.ref 0), some (.int a0)] [] (ij_SH, hi, hl, ij_HR) (fun n => rfl) (fun c2 => ?_) (fun c2 => ?_)
    · skip
      refine ij_br 4 ((hi 40 8) = 0) 40 25 [some (.ref 0), some (.int a0)] [] (ij_SH, hi, hl, ij_HR) (fun n => rfl) (fun c3 => ?_) (fun c3 => ?_)
      · skip
        refine ij_call 3 44 [some (.ref 0), some (.int (6))] [] 46 [some (.ref 0), some (.int a0)] (ij_SH, hi, hl, ij_HR) (fun n => rfl) (s44_0 6 ?_)
        -- back
        exact ij_ret 1 (some (.int ((-1)))) (ij_SH, (ij_ui hi 0 0 6), hl, ij_HR) (fun n => rfl) (q1 c1 c2 c3)
      · skip
        refine ij_call 5 347 [some (.ref 40), some (.int a0)] [.ref 0] 34 [some (.ref 0), some (.int a0)] (ij_SH, hi, hl, ij_HR) (fun n => rfl) (t347_40 a0 ?_)
        -- back
        refine ij_call 1 90 [some (.ref 0), some (.int ((f347_40 a0 hi hl)))] [] 37 [some (.ref 0), some (.int a0)] (ij_SH, hi, hl, ij_HR) (fun n => rfl) (s90_0 (f347_40 a0 hi hl) ?_)
        -- back
        exact ij_ret 2 (some (.int ((f347_40 a0 hi hl)))) (ij_SH, (ij_ui hi 0 0 0), hl, ij_HR) (fun n => rfl) (q2 c1 c2 c3)
    · skip
      refine ij_call 3 44 [some (.ref 0), some (.int (1))] [] 14 [some (.ref 0), some (.int a0)] (ij_SH, hi, hl, ij_HR) (fun n => rfl) (s44_0 1 ?_)
      -- back
      exact ij_ret 1 (some (.int ((-1)))) (ij_SH, (ij_ui hi 0 0 1), hl, ij_HR) (fun n => rfl) (q3 c1 c2)
set_option maxRecDepth 10000 in
-- ScaleForgeModel.lived(I)I
theorem s349_77 {N : Nat} {xs : Nat → Int32} {hi : Nat → Nat → Int32} {hl : Nat → Nat → Int64} {Q : Option Value → ij_H → Prop} (a0 : Int32) (b0 : ¬ (a0 < 0) → (a0 ≤ 4) → ¬ ((hi 77 54) = 0) → ¬ (a0 < 0 ∨ 5 ≤ (a0 : Int32).toNatClampNeg)) (q0 : (a0 < 0) → Q (some (.int ((-1)))) (ij_SH, (ij_ui hi 77 1 1), hl, ij_HR)) (q1 : ¬ (a0 < 0) → (a0 ≤ 4) → ((hi 77 54) = 0) → Q (some (.int ((-1)))) (ij_SH, (ij_ui hi 77 1 6), hl, ij_HR)) (q2 : ¬ (a0 < 0) → (a0 ≤ 4) → ¬ ((hi 77 54) = 0) → Q (some (.int ((hi 102 (a0).toNatClampNeg)))) (ij_SH, (ij_ui hi 77 1 0), hl, ij_HR)) (q3 : ¬ (a0 < 0) → ¬ (a0 ≤ 4) → Q (some (.int ((-1)))) (ij_SH, (ij_ui hi 77 1 1), hl, ij_HR)) : ij_R (ij_xt N xs) 349 0 [some (.ref 77), some (.int a0)] [] (ij_SH, hi, hl, ij_HR) Q := by
  refine ij_br 2 (a0 < 0) 9 4 [some (.ref 77), some (.int a0)] [] (ij_SH, hi, hl, ij_HR) (fun n => rfl) (fun c1 => ?_) (fun c1 => ?_)
  · skip
    refine ij_call 3 98 [some (.ref 77), some (.int (1))] [] 14 [some (.ref 77), some (.int a0)] (ij_SH, hi, hl, ij_HR) (fun n => rfl) (s98_77 1 ?_)
    -- back
    exact ij_ret 2 (some (.int ((-1)))) (ij_SH, (ij_ui hi 77 1 1), hl, ij_HR) (fun n => rfl) (q0 c1)
  · skip
    refine ij_br 3 (a0 ≤ 4) 17 9 [some (.ref 77), some (.int a0)] [] (ij_SH, hi, hl, ij_HR) (fun n => rfl) (fun c2 => ?_) (fun c2 => ?_)
    · skip
      refine ij_br 3 ((hi 77 54) = 0) 37 24 [some (.ref 77), some (.int a0)] [] (ij_SH, hi, hl, ij_HR) (fun n => rfl) (fun c3 => ?_) (fun c3 => ?_)
      · skip
        refine ij_call 3 98 [some (.ref 77), some (.int (6))] [] 43 [some (.ref 77), some (.int a0)] (ij_SH, hi, hl, ij_HR) (fun n => rfl) (s98_77 6 ?_)
        -- back
        exact ij_ret 1 (some (.int ((-1)))) (ij_SH, (ij_ui hi 77 1 6), hl, ij_HR) (fun n => rfl) (q1 c1 c2 c3)
      · skip
        refine ij_go 4 30 [some (.ref 77), some (.int a0)] [.int a0, .ref 102, .ref 77] (ij_SH, hi, hl, ij_HR) (fun n => rfl) ?_
        refine ij_ial rfl rfl rfl (b0 c1 c2 c3) ?_
        refine ij_call 1 115 [some (.ref 77), some (.int ((hi 102 (a0).toNatClampNeg)))] [] 34 [some (.ref 77), some (.int a0)] (ij_SH, hi, hl, ij_HR) (fun n => rfl) (s115_77 (hi 102 (a0).toNatClampNeg) ?_)
        -- back
        exact ij_ret 2 (some (.int ((hi 102 (a0).toNatClampNeg)))) (ij_SH, (ij_ui hi 77 1 0), hl, ij_HR) (fun n => rfl) (q2 c1 c2 c3)
    · skip
      refine ij_call 3 98 [some (.ref 77), some (.int (1))] [] 14 [some (.ref 77), some (.int a0)] (ij_SH, hi, hl, ij_HR) (fun n => rfl) (s98_77 1 ?_)
      -- back
      exact ij_ret 2 (some (.int ((-1)))) (ij_SH, (ij_ui hi 77 1 1), hl, ij_HR) (fun n => rfl) (q3 c1 c2)
set_option maxRecDepth 10000 in
-- ScaleForge$Life.letGoAt(I)I
theorem s350_40 {N : Nat} {xs : Nat → Int32} {hi : Nat → Nat → Int32} {hl : Nat → Nat → Int64} {Q : Option Value → ij_H → Prop} (a0 : Int32) (q0 : (a0 < 0) → Q (some (.int ((-1)))) (ij_SH, hi, hl, ij_HR)) (q1 : ¬ (a0 < 0) → ((hi 40 13) ≤ a0) → Q (some (.int ((-1)))) (ij_SH, hi, hl, ij_HR)) (q2 : ¬ (a0 < 0) → ¬ ((hi 40 13) ≤ a0) → (60 ≤ a0) → Q (some (.int ((-1)))) (ij_SH, hi, hl, ij_HR)) (q3 : ¬ (a0 < 0) → ¬ ((hi 40 13) ≤ a0) → ¬ (60 ≤ a0) → Q (some (.int ((hi 43 (a0).toNatClampNeg)))) (ij_SH, hi, hl, ij_HR)) : ij_R (ij_xt N xs) 350 0 [some (.ref 40), some (.int a0)] [] (ij_SH, hi, hl, ij_HR) Q := by
  refine ij_br 2 (a0 < 0) 30 4 [some (.ref 40), some (.int a0)] [] (ij_SH, hi, hl, ij_HR) (fun n => rfl) (fun c1 => ?_) (fun c1 => ?_)
  · skip
    exact ij_ret 2 (some (.int ((-1)))) (ij_SH, hi, hl, ij_HR) (fun n => rfl) (q0 c1)
  · skip
    refine ij_br 4 ((hi 40 13) ≤ a0) 30 12 [some (.ref 40), some (.int a0)] [] (ij_SH, hi, hl, ij_HR) (fun n => rfl) (fun c2 => ?_) (fun c2 => ?_)
    · skip
      exact ij_ret 2 (some (.int ((-1)))) (ij_SH, hi, hl, ij_HR) (fun n => rfl) (q1 c1 c2)
    · skip
      refine ij_br 5 (60 ≤ a0) 30 21 [some (.ref 40), some (.int a0)] [] (ij_SH, hi, hl, ij_HR) (fun n => rfl) (fun c3 => ?_) (fun c3 => ?_)
      · skip
        exact ij_ret 2 (some (.int ((-1)))) (ij_SH, hi, hl, ij_HR) (fun n => rfl) (q2 c1 c2 c3)
      · skip
        refine ij_go 3 26 [some (.ref 40), some (.int a0)] [.int a0, .ref 43] (ij_SH, hi, hl, ij_HR) (fun n => rfl) ?_
        refine ij_ial rfl rfl rfl (ij_bd c1 (Int32.not_le.mp c3) (by decide)) ?_
        exact ij_ret 2 (some (.int ((hi 43 (a0).toNatClampNeg)))) (ij_SH, hi, hl, ij_HR) (fun n => rfl) (q3 c1 c2 c3)
def f350_40 (a0 : Int32) (hi : Nat → Nat → Int32) (hl : Nat → Nat → Int64) : Int32 := if a0 < 0 then ((-1)) else (if (hi 40 13) ≤ a0 then ((-1)) else (if 60 ≤ a0 then ((-1)) else ((hi 43 (a0).toNatClampNeg))))
theorem t350_40 {N : Nat} {xs : Nat → Int32} {hi : Nat → Nat → Int32} {hl : Nat → Nat → Int64} {Q : Option Value → ij_H → Prop} (a0 : Int32) (q : Q (some (.int (f350_40 a0 hi hl))) (ij_SH, hi, hl, ij_HR)) : ij_R (ij_xt N xs) 350 0 [some (.ref 40), some (.int a0)] [] (ij_SH, hi, hl, ij_HR) Q :=
  s350_40 a0 (fun k0 => by rw [f350_40, if_pos k0] at q; exact q) (fun k0 k1 => by rw [f350_40, if_neg k0, if_pos k1] at q; exact q) (fun k0 k1 k2 => by rw [f350_40, if_neg k0, if_neg k1, if_pos k2] at q; exact q) (fun k0 k1 k2 => by rw [f350_40, if_neg k0, if_neg k1, if_neg k2] at q; exact q)
set_option maxRecDepth 10000 in
-- ScaleForge$Life.letGoAt(I)I
theorem s350_47 {N : Nat} {xs : Nat → Int32} {hi : Nat → Nat → Int32} {hl : Nat → Nat → Int64} {Q : Option Value → ij_H → Prop} (a0 : Int32) (q0 : (a0 < 0) → Q (some (.int ((-1)))) (ij_SH, hi, hl, ij_HR)) (q1 : ¬ (a0 < 0) → ((hi 47 13) ≤ a0) → Q (some (.int ((-1)))) (ij_SH, hi, hl, ij_HR)) (q2 : ¬ (a0 < 0) → ¬ ((hi 47 13) ≤ a0) → (60 ≤ a0) → Q (some (.int ((-1)))) (ij_SH, hi, hl, ij_HR)) (q3 : ¬ (a0 < 0) → ¬ ((hi 47 13) ≤ a0) → ¬ (60 ≤ a0) → Q (some (.int ((hi 50 (a0).toNatClampNeg)))) (ij_SH, hi, hl, ij_HR)) : ij_R (ij_xt N xs) 350 0 [some (.ref 47), some (.int a0)] [] (ij_SH, hi, hl, ij_HR) Q := by
  refine ij_br 2 (a0 < 0) 30 4 [some (.ref 47), some (.int a0)] [] (ij_SH, hi, hl, ij_HR) (fun n => rfl) (fun c1 => ?_) (fun c1 => ?_)
  · skip
    exact ij_ret 2 (some (.int ((-1)))) (ij_SH, hi, hl, ij_HR) (fun n => rfl) (q0 c1)
  · skip
    refine ij_br 4 ((hi 47 13) ≤ a0) 30 12 [some (.ref 47), some (.int a0)] [] (ij_SH, hi, hl, ij_HR) (fun n => rfl) (fun c2 => ?_) (fun c2 => ?_)
    · skip
      exact ij_ret 2 (some (.int ((-1)))) (ij_SH, hi, hl, ij_HR) (fun n => rfl) (q1 c1 c2)
    · skip
      refine ij_br 5 (60 ≤ a0) 30 21 [some (.ref 47), some (.int a0)] [] (ij_SH, hi, hl, ij_HR) (fun n => rfl) (fun c3 => ?_) (fun c3 => ?_)
      · skip
        exact ij_ret 2 (some (.int ((-1)))) (ij_SH, hi, hl, ij_HR) (fun n => rfl) (q2 c1 c2 c3)
      · skip
        refine ij_go 3 26 [some (.ref 47), some (.int a0)] [.int a0, .ref 50] (ij_SH, hi, hl, ij_HR) (fun n => rfl) ?_
        refine ij_ial rfl rfl rfl (ij_bd c1 (Int32.not_le.mp c3) (by decide)) ?_
        exact ij_ret 2 (some (.int ((hi 50 (a0).toNatClampNeg)))) (ij_SH, hi, hl, ij_HR) (fun n => rfl) (q3 c1 c2 c3)
def f350_47 (a0 : Int32) (hi : Nat → Nat → Int32) (hl : Nat → Nat → Int64) : Int32 := if a0 < 0 then ((-1)) else (if (hi 47 13) ≤ a0 then ((-1)) else (if 60 ≤ a0 then ((-1)) else ((hi 50 (a0).toNatClampNeg))))
theorem t350_47 {N : Nat} {xs : Nat → Int32} {hi : Nat → Nat → Int32} {hl : Nat → Nat → Int64} {Q : Option Value → ij_H → Prop} (a0 : Int32) (q : Q (some (.int (f350_47 a0 hi hl))) (ij_SH, hi, hl, ij_HR)) : ij_R (ij_xt N xs) 350 0 [some (.ref 47), some (.int a0)] [] (ij_SH, hi, hl, ij_HR) Q :=
  s350_47 a0 (fun k0 => by rw [f350_47, if_pos k0] at q; exact q) (fun k0 k1 => by rw [f350_47, if_neg k0, if_pos k1] at q; exact q) (fun k0 k1 k2 => by rw [f350_47, if_neg k0, if_neg k1, if_pos k2] at q; exact q) (fun k0 k1 k2 => by rw [f350_47, if_neg k0, if_neg k1, if_neg k2] at q; exact q)
set_option maxRecDepth 10000 in
-- ScaleForge.logAt(I)I
theorem s351_0 {N : Nat} {xs : Nat → Int32} {hi : Nat → Nat → Int32} {hl : Nat → Nat → Int64} {Q : Option Value → ij_H → Prop} (a0 : Int32) (q0 : ((f350_40 a0 hi hl) = (-1)) → Q (some (.int ((-1)))) (ij_SH, (ij_ui hi 0 0 6), hl, ij_HR)) (q1 : ¬ ((f350_40 a0 hi hl) = (-1)) → Q (some (.int ((f350_40 a0 hi hl)))) (ij_SH, (ij_ui hi 0 0 0), hl, ij_HR)) : ij_R (ij_xt N xs) 351 0 [some (.ref 0), some (.int a0)] [] (ij_SH, hi, hl, ij_HR) Q := by
  refine ij_call 5 350 [some (.ref 40), some (.int a0)] [.ref 0] 9 [some (.ref 0), some (.int a0)] (ij_SH, hi, hl, ij_HR) (fun n => rfl) (t350_40 a0 ?_)
  -- back
  refine ij_call 1 167 [some (.ref 0), some (.int ((f350_40 a0 hi hl)))] [] 12 [some (.ref 0), some (.int a0)] (ij_SH, hi, hl, ij_HR) (fun n => rfl) (s167_0 (f350_40 a0 hi hl) (fun c1 => ?_) (fun c2 => ?_))
  · skip
    exact ij_ret 1 (some (.int ((-1)))) (ij_SH, (ij_ui hi 0 0 6), hl, ij_HR) (fun n => rfl) (q0 c1)
  · skip
    exact ij_ret 1 (some (.int ((f350_40 a0 hi hl)))) (ij_SH, (ij_ui hi 0 0 0), hl, ij_HR) (fun n => rfl) (q1 c2)
set_option maxRecDepth 10000 in
-- ScaleForgeModel.logAt(I)I
theorem s352_77 {N : Nat} {xs : Nat → Int32} {hi : Nat → Nat → Int32} {hl : Nat → Nat → Int64} {Q : Option Value → ij_H → Prop} (a0 : Int32) (b0 : ¬ ((hi 77 54) = 0) → ¬ (a0 < 0) → ¬ ((hi 77 47) ≤ a0) → ¬ (a0 < 0 ∨ 60 ≤ (a0 : Int32).toNatClampNeg)) (q0 : ((hi 77 54) = 0) → Q (some (.int ((-1)))) (ij_SH, (ij_ui hi 77 1 6), hl, ij_HR)) (q1 : ¬ ((hi 77 54) = 0) → (a0 < 0) → Q (some (.int ((-1)))) (ij_SH, (ij_ui hi 77 1 6), hl, ij_HR)) (q2 : ¬ ((hi 77 54) = 0) → ¬ (a0 < 0) → ((hi 77 47) ≤ a0) → Q (some (.int ((-1)))) (ij_SH, (ij_ui hi 77 1 6), hl, ij_HR)) (q3 : ¬ ((hi 77 54) = 0) → ¬ (a0 < 0) → ¬ ((hi 77 47) ≤ a0) → Q (some (.int ((hi 105 (a0).toNatClampNeg)))) (ij_SH, (ij_ui hi 77 1 0), hl, ij_HR)) : ij_R (ij_xt N xs) 352 0 [some (.ref 77), some (.int a0)] [] (ij_SH, hi, hl, ij_HR) Q := by
  refine ij_br 3 ((hi 77 54) = 0) 32 7 [some (.ref 77), some (.int a0)] [] (ij_SH, hi, hl, ij_HR) (fun n => rfl) (fun c1 => ?_) (fun c1 => ?_)
  · skip
    refine ij_call 3 98 [some (.ref 77), some (.int (6))] [] 38 [some (.ref 77), some (.int a0)] (ij_SH, hi, hl, ij_HR) (fun n => rfl) (s98_77 6 ?_)
    -- back
    exact ij_ret 1 (some (.int ((-1)))) (ij_SH, (ij_ui hi 77 1 6), hl, ij_HR) (fun n => rfl) (q0 c1)
  · skip
    refine ij_br 2 (a0 < 0) 32 11 [some (.ref 77), some (.int a0)] [] (ij_SH, hi, hl, ij_HR) (fun n => rfl) (fun c2 => ?_) (fun c2 => ?_)
    · skip
      refine ij_call 3 98 [some (.ref 77), some (.int (6))] [] 38 [some (.ref 77), some (.int a0)] (ij_SH, hi, hl, ij_HR) (fun n => rfl) (s98_77 6 ?_)
      -- back
      exact ij_ret 1 (some (.int ((-1)))) (ij_SH, (ij_ui hi 77 1 6), hl, ij_HR) (fun n => rfl) (q1 c1 c2)
    · skip
      refine ij_br 4 ((hi 77 47) ≤ a0) 32 19 [some (.ref 77), some (.int a0)] [] (ij_SH, hi, hl, ij_HR) (fun n => rfl) (fun c3 => ?_) (fun c3 => ?_)
      · skip
        refine ij_call 3 98 [some (.ref 77), some (.int (6))] [] 38 [some (.ref 77), some (.int a0)] (ij_SH, hi, hl, ij_HR) (fun n => rfl) (s98_77 6 ?_)
        -- back
        exact ij_ret 1 (some (.int ((-1)))) (ij_SH, (ij_ui hi 77 1 6), hl, ij_HR) (fun n => rfl) (q2 c1 c2 c3)
      · skip
        refine ij_go 4 25 [some (.ref 77), some (.int a0)] [.int a0, .ref 105, .ref 77] (ij_SH, hi, hl, ij_HR) (fun n => rfl) ?_
        refine ij_ial rfl rfl rfl (b0 c1 c2 c3) ?_
        refine ij_call 1 115 [some (.ref 77), some (.int ((hi 105 (a0).toNatClampNeg)))] [] 29 [some (.ref 77), some (.int a0)] (ij_SH, hi, hl, ij_HR) (fun n => rfl) (s115_77 (hi 105 (a0).toNatClampNeg) ?_)
        -- back
        exact ij_ret 2 (some (.int ((hi 105 (a0).toNatClampNeg)))) (ij_SH, (ij_ui hi 77 1 0), hl, ij_HR) (fun n => rfl) (q3 c1 c2 c3)
