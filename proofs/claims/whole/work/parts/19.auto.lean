set_option maxRecDepth 10000 in
-- ScaleForge.isBoundByPeriod(I)Z
theorem s3 {xt : ij_X} {hi : Nat → Nat → Int32} {hl : Nat → Nat → Int64} {Q : Option Value → ij_H → Prop} (a0 : Int32) (q0 : (a0 = 2) → Q (some (.int (1))) (ij_SH, hi, hl, ij_HR)) (q1 : ¬ (a0 = 2) → (a0 = 5) → Q (some (.int (1))) (ij_SH, hi, hl, ij_HR)) (q2 : ¬ (a0 = 2) → ¬ (a0 = 5) → (a0 = 7) → Q (some (.int (1))) (ij_SH, hi, hl, ij_HR)) (q3 : ¬ (a0 = 2) → ¬ (a0 = 5) → ¬ (a0 = 7) → (a0 = 8) → Q (some (.int (1))) (ij_SH, hi, hl, ij_HR)) (q4 : ¬ (a0 = 2) → ¬ (a0 = 5) → ¬ (a0 = 7) → ¬ (a0 = 8) → Q (some (.int (0))) (ij_SH, hi, hl, ij_HR)) : ij_R xt 3 0 [some (.int a0)] [] (ij_SH, hi, hl, ij_HR) Q := by
  refine ij_br 3 (a0 = 2) 22 5 [some (.int a0)] [] (ij_SH, hi, hl, ij_HR) (fun n => rfl) (fun c1 => ?_) (fun c1 => ?_)
  · skip
    exact ij_ret 3 (some (.int (1))) (ij_SH, hi, hl, ij_HR) (fun n => rfl) (q0 c1)
  · skip
    refine ij_br 3 (a0 = 5) 22 10 [some (.int a0)] [] (ij_SH, hi, hl, ij_HR) (fun n => rfl) (fun c2 => ?_) (fun c2 => ?_)
    · skip
      exact ij_ret 3 (some (.int (1))) (ij_SH, hi, hl, ij_HR) (fun n => rfl) (q1 c1 c2)
    · skip
      refine ij_br 3 (a0 = 7) 22 16 [some (.int a0)] [] (ij_SH, hi, hl, ij_HR) (fun n => rfl) (fun c3 => ?_) (fun c3 => ?_)
      · skip
        exact ij_ret 3 (some (.int (1))) (ij_SH, hi, hl, ij_HR) (fun n => rfl) (q2 c1 c2 c3)
      · skip
        refine ij_br 3 (a0 = 8) 22 26 [some (.int a0)] [] (ij_SH, hi, hl, ij_HR) (fun n => rfl) (fun c4 => ?_) (fun c4 => ?_)
        · skip
          exact ij_ret 3 (some (.int (1))) (ij_SH, hi, hl, ij_HR) (fun n => rfl) (q3 c1 c2 c3 c4)
        · skip
          exact ij_ret 2 (some (.int (0))) (ij_SH, hi, hl, ij_HR) (fun n => rfl) (q4 c1 c2 c3 c4)
set_option maxRecDepth 10000 in
-- ScaleForge$Bits.of(I)J
theorem s6 {xt : ij_X} {hi : Nat → Nat → Int32} {hl : Nat → Nat → Int64} {Q : Option Value → ij_H → Prop} (a0 : Int32) (q0 : (a0 < 0) → Q (some (.long (0))) (ij_SH, hi, hl, ij_HR)) (q1 : ¬ (a0 < 0) → (64 ≤ a0) → Q (some (.long (0))) (ij_SH, hi, hl, ij_HR)) (q2 : ¬ (a0 < 0) → ¬ (64 ≤ a0) → Q (some (.long ((1 <<< ((a0 : Int32).toInt64 &&& 63))))) (ij_SH, hi, hl, ij_HR)) : ij_R xt 6 0 [some (.int a0)] [] (ij_SH, hi, hl, ij_HR) Q := by
  refine ij_br 2 (a0 < 0) 16 4 [some (.int a0)] [] (ij_SH, hi, hl, ij_HR) (fun n => rfl) (fun c1 => ?_) (fun c1 => ?_)
  · skip
    exact ij_ret 2 (some (.long (0))) (ij_SH, hi, hl, ij_HR) (fun n => rfl) (q0 c1)
  · skip
    refine ij_br 3 (64 ≤ a0) 16 10 [some (.int a0)] [] (ij_SH, hi, hl, ij_HR) (fun n => rfl) (fun c2 => ?_) (fun c2 => ?_)
    · skip
      exact ij_ret 2 (some (.long (0))) (ij_SH, hi, hl, ij_HR) (fun n => rfl) (q1 c1 c2)
    · skip
      exact ij_ret 5 (some (.long ((1 <<< ((a0 : Int32).toInt64 &&& 63))))) (ij_SH, hi, hl, ij_HR) (fun n => rfl) (q2 c1 c2)
set_option maxRecDepth 10000 in
-- ScaleForge$Bits.below(I)J
theorem s7 {xt : ij_X} {hi : Nat → Nat → Int32} {hl : Nat → Nat → Int64} {Q : Option Value → ij_H → Prop} (a0 : Int32) (q0 : (a0 < 0) → Q (some (.long ((0 - 1)))) (ij_SH, hi, hl, ij_HR)) (q1 : ¬ (a0 < 0) → (64 ≤ a0) → Q (some (.long ((0 - 1)))) (ij_SH, hi, hl, ij_HR)) (q2 : ¬ (a0 < 0) → ¬ (64 ≤ a0) → Q (some (.long (((1 <<< ((a0 : Int32).toInt64 &&& 63)) - 1)))) (ij_SH, hi, hl, ij_HR)) : ij_R xt 7 0 [some (.int a0)] [] (ij_SH, hi, hl, ij_HR) Q := by
  refine ij_call 2 6 [some (.int a0)] [] 4 [some (.int a0)] (ij_SH, hi, hl, ij_HR) (fun n => rfl) (s6 a0 (fun c1 => ?_) (fun c2 c3 => ?_) (fun c4 c5 => ?_))
  · skip
    exact ij_ret 3 (some (.long ((0 - 1)))) (ij_SH, hi, hl, ij_HR) (fun n => rfl) (q0 c1)
  · skip
    exact ij_ret 3 (some (.long ((0 - 1)))) (ij_SH, hi, hl, ij_HR) (fun n => rfl) (q1 c2 c3)
  · skip
    exact ij_ret 3 (some (.long (((1 <<< ((a0 : Int32).toInt64 &&& 63)) - 1)))) (ij_SH, hi, hl, ij_HR) (fun n => rfl) (q2 c4 c5)
set_option maxRecDepth 10000 in
-- ScaleForge.status()I
theorem s21_0 {xt : ij_X} {hi : Nat → Nat → Int32} {hl : Nat → Nat → Int64} {Q : Option Value → ij_H → Prop} (q0 : Q (some (.int ((hi 0 0)))) (ij_SH, hi, hl, ij_HR)) : ij_R xt 21 0 [some (.ref 0)] [] (ij_SH, hi, hl, ij_HR) Q := by
  exact ij_ret 3 (some (.int ((hi 0 0)))) (ij_SH, hi, hl, ij_HR) (fun n => rfl) (q0)
set_option maxRecDepth 10000 in
-- ScaleForgeModel.status()I
theorem s22_77 {xt : ij_X} {hi : Nat → Nat → Int32} {hl : Nat → Nat → Int64} {Q : Option Value → ij_H → Prop} (q0 : Q (some (.int ((hi 77 1)))) (ij_SH, hi, hl, ij_HR)) : ij_R xt 22 0 [some (.ref 77)] [] (ij_SH, hi, hl, ij_HR) Q := by
  exact ij_ret 3 (some (.int ((hi 77 1)))) (ij_SH, hi, hl, ij_HR) (fun n => rfl) (q0)
set_option maxRecDepth 10000 in
-- ScaleForge.top()J
theorem s23_0 {xt : ij_X} {hi : Nat → Nat → Int32} {hl : Nat → Nat → Int64} {Q : Option Value → ij_H → Prop} (q0 : Q (some (.long ((hl 0 1)))) (ij_SH, hi, hl, ij_HR)) : ij_R xt 23 0 [some (.ref 0)] [] (ij_SH, hi, hl, ij_HR) Q := by
  exact ij_ret 3 (some (.long ((hl 0 1)))) (ij_SH, hi, hl, ij_HR) (fun n => rfl) (q0)
set_option maxRecDepth 10000 in
-- ScaleForgeModel.top()J
theorem s24_77 {xt : ij_X} {hi : Nat → Nat → Int32} {hl : Nat → Nat → Int64} {Q : Option Value → ij_H → Prop} (q0 : Q (some (.long ((hl 77 2)))) (ij_SH, hi, hl, ij_HR)) : ij_R xt 24 0 [some (.ref 77)] [] (ij_SH, hi, hl, ij_HR) Q := by
  exact ij_ret 3 (some (.long ((hl 77 2)))) (ij_SH, hi, hl, ij_HR) (fun n => rfl) (q0)
set_option maxRecDepth 10000 in
-- ScaleForge.bottom()J
theorem s25_0 {xt : ij_X} {hi : Nat → Nat → Int32} {hl : Nat → Nat → Int64} {Q : Option Value → ij_H → Prop} (q0 : Q (some (.long ((hl 0 2)))) (ij_SH, hi, hl, ij_HR)) : ij_R xt 25 0 [some (.ref 0)] [] (ij_SH, hi, hl, ij_HR) Q := by
  exact ij_ret 3 (some (.long ((hl 0 2)))) (ij_SH, hi, hl, ij_HR) (fun n => rfl) (q0)
set_option maxRecDepth 10000 in
-- ScaleForgeModel.bottom()J
theorem s26_77 {xt : ij_X} {hi : Nat → Nat → Int32} {hl : Nat → Nat → Int64} {Q : Option Value → ij_H → Prop} (q0 : Q (some (.long ((hl 77 3)))) (ij_SH, hi, hl, ij_HR)) : ij_R xt 26 0 [some (.ref 77)] [] (ij_SH, hi, hl, ij_HR) Q := by
  exact ij_ret 3 (some (.long ((hl 77 3)))) (ij_SH, hi, hl, ij_HR) (fun n => rfl) (q0)
set_option maxRecDepth 10000 in
-- ScaleForge.refuse(I)Z
theorem s28_0 {xt : ij_X} {hi : Nat → Nat → Int32} {hl : Nat → Nat → Int64} {Q : Option Value → ij_H → Prop} (a0 : Int32) (q0 : Q (some (.int (0))) (ij_SH, (ij_ui hi 0 0 a0), hl, ij_HR)) : ij_R xt 28 0 [some (.ref 0), some (.int a0)] [] (ij_SH, hi, hl, ij_HR) Q := by
  exact ij_ret 5 (some (.int (0))) (ij_SH, (ij_ui hi 0 0 a0), hl, ij_HR) (fun n => rfl) (q0)
set_option maxRecDepth 10000 in
-- ScaleForge.grant()Z
theorem s30_0 {xt : ij_X} {hi : Nat → Nat → Int32} {hl : Nat → Nat → Int64} {Q : Option Value → ij_H → Prop} (q0 : Q (some (.int (1))) (ij_SH, (ij_ui hi 0 0 0), hl, ij_HR)) : ij_R xt 30 0 [some (.ref 0)] [] (ij_SH, hi, hl, ij_HR) Q := by
  exact ij_ret 5 (some (.int (1))) (ij_SH, (ij_ui hi 0 0 0), hl, ij_HR) (fun n => rfl) (q0)
set_option maxRecDepth 10000 in
-- ScaleForgeModel.isTray(I)Z
theorem s32 {xt : ij_X} {hi : Nat → Nat → Int32} {hl : Nat → Nat → Int64} {Q : Option Value → ij_H → Prop} (a0 : Int32) (q0 : (a0 < 0) → Q (some (.int (0))) (ij_SH, hi, hl, ij_HR)) (q1 : ¬ (a0 < 0) → (4 ≤ a0) → Q (some (.int (0))) (ij_SH, hi, hl, ij_HR)) (q2 : ¬ (a0 < 0) → ¬ (4 ≤ a0) → Q (some (.int (1))) (ij_SH, hi, hl, ij_HR)) : ij_R xt 32 0 [some (.int a0)] [] (ij_SH, hi, hl, ij_HR) Q := by
  refine ij_br 2 (a0 < 0) 13 4 [some (.int a0)] [] (ij_SH, hi, hl, ij_HR) (fun n => rfl) (fun c1 => ?_) (fun c1 => ?_)
  · skip
    exact ij_ret 2 (some (.int (0))) (ij_SH, hi, hl, ij_HR) (fun n => rfl) (q0 c1)
  · skip
    refine ij_br 3 (4 ≤ a0) 13 9 [some (.int a0)] [] (ij_SH, hi, hl, ij_HR) (fun n => rfl) (fun c2 => ?_) (fun c2 => ?_)
    · skip
      exact ij_ret 2 (some (.int (0))) (ij_SH, hi, hl, ij_HR) (fun n => rfl) (q1 c1 c2)
    · skip
      exact ij_ret 3 (some (.int (1))) (ij_SH, hi, hl, ij_HR) (fun n => rfl) (q2 c1 c2)
set_option maxRecDepth 10000 in
-- ScaleForgeModel.is(I)Z
theorem s33_77 {xt : ij_X} {hi : Nat → Nat → Int32} {hl : Nat → Nat → Int64} {Q : Option Value → ij_H → Prop} (a0 : Int32) (q0 : (a0 = 0) → Q (some (.int (1))) (ij_SH, (ij_ui hi 77 1 a0), hl, ij_HR)) (q1 : ¬ (a0 = 0) → Q (some (.int (0))) (ij_SH, (ij_ui hi 77 1 a0), hl, ij_HR)) : ij_R xt 33 0 [some (.ref 77), some (.int a0)] [] (ij_SH, hi, hl, ij_HR) Q := by
  refine ij_br 5 (a0 = 0) 9 13 [some (.ref 77), some (.int a0)] [] (ij_SH, (ij_ui hi 77 1 a0), hl, ij_HR) (fun n => rfl) (fun c1 => ?_) (fun c1 => ?_)
  · skip
    exact ij_ret 3 (some (.int (1))) (ij_SH, (ij_ui hi 77 1 a0), hl, ij_HR) (fun n => rfl) (q0 c1)
  · skip
    exact ij_ret 2 (some (.int (0))) (ij_SH, (ij_ui hi 77 1 a0), hl, ij_HR) (fun n => rfl) (q1 c1)
set_option maxRecDepth 10000 in
-- ScaleForge$Tray.isMissing()Z
theorem s35_2 {xt : ij_X} {hi : Nat → Nat → Int32} {hl : Nat → Nat → Int64} {Q : Option Value → ij_H → Prop} (q0 : ((hi 2 2) = (-1)) → Q (some (.int (1))) (ij_SH, hi, hl, ij_HR)) (q1 : ¬ ((hi 2 2) = (-1)) → Q (some (.int (0))) (ij_SH, hi, hl, ij_HR)) : ij_R xt 35 0 [some (.ref 2)] [] (ij_SH, hi, hl, ij_HR) Q := by
  refine ij_br 4 ((hi 2 2) = (-1)) 8 12 [some (.ref 2)] [] (ij_SH, hi, hl, ij_HR) (fun n => rfl) (fun c1 => ?_) (fun c1 => ?_)
  · skip
    exact ij_ret 3 (some (.int (1))) (ij_SH, hi, hl, ij_HR) (fun n => rfl) (q0 c1)
  · skip
    exact ij_ret 2 (some (.int (0))) (ij_SH, hi, hl, ij_HR) (fun n => rfl) (q1 c1)
set_option maxRecDepth 10000 in
-- ScaleForge$Tray.isMissing()Z
theorem s35_4 {xt : ij_X} {hi : Nat → Nat → Int32} {hl : Nat → Nat → Int64} {Q : Option Value → ij_H → Prop} (q0 : ((hi 4 2) = (-1)) → Q (some (.int (1))) (ij_SH, hi, hl, ij_HR)) (q1 : ¬ ((hi 4 2) = (-1)) → Q (some (.int (0))) (ij_SH, hi, hl, ij_HR)) : ij_R xt 35 0 [some (.ref 4)] [] (ij_SH, hi, hl, ij_HR) Q := by
  refine ij_br 4 ((hi 4 2) = (-1)) 8 12 [some (.ref 4)] [] (ij_SH, hi, hl, ij_HR) (fun n => rfl) (fun c1 => ?_) (fun c1 => ?_)
  · skip
    exact ij_ret 3 (some (.int (1))) (ij_SH, hi, hl, ij_HR) (fun n => rfl) (q0 c1)
  · skip
    exact ij_ret 2 (some (.int (0))) (ij_SH, hi, hl, ij_HR) (fun n => rfl) (q1 c1)
set_option maxRecDepth 10000 in
-- ScaleForge$Tray.isMissing()Z
theorem s35_6 {xt : ij_X} {hi : Nat → Nat → Int32} {hl : Nat → Nat → Int64} {Q : Option Value → ij_H → Prop} (q0 : ((hi 6 2) = (-1)) → Q (some (.int (1))) (ij_SH, hi, hl, ij_HR)) (q1 : ¬ ((hi 6 2) = (-1)) → Q (some (.int (0))) (ij_SH, hi, hl, ij_HR)) : ij_R xt 35 0 [some (.ref 6)] [] (ij_SH, hi, hl, ij_HR) Q := by
  refine ij_br 4 ((hi 6 2) = (-1)) 8 12 [some (.ref 6)] [] (ij_SH, hi, hl, ij_HR) (fun n => rfl) (fun c1 => ?_) (fun c1 => ?_)
  · skip
    exact ij_ret 3 (some (.int (1))) (ij_SH, hi, hl, ij_HR) (fun n => rfl) (q0 c1)
  · skip
    exact ij_ret 2 (some (.int (0))) (ij_SH, hi, hl, ij_HR) (fun n => rfl) (q1 c1)
set_option maxRecDepth 10000 in
-- ScaleForge$Tray.isMissing()Z
theorem s35_8 {xt : ij_X} {hi : Nat → Nat → Int32} {hl : Nat → Nat → Int64} {Q : Option Value → ij_H → Prop} (q0 : ((hi 8 2) = (-1)) → Q (some (.int (1))) (ij_SH, hi, hl, ij_HR)) (q1 : ¬ ((hi 8 2) = (-1)) → Q (some (.int (0))) (ij_SH, hi, hl, ij_HR)) : ij_R xt 35 0 [some (.ref 8)] [] (ij_SH, hi, hl, ij_HR) Q := by
  refine ij_br 4 ((hi 8 2) = (-1)) 8 12 [some (.ref 8)] [] (ij_SH, hi, hl, ij_HR) (fun n => rfl) (fun c1 => ?_) (fun c1 => ?_)
  · skip
    exact ij_ret 3 (some (.int (1))) (ij_SH, hi, hl, ij_HR) (fun n => rfl) (q0 c1)
  · skip
    exact ij_ret 2 (some (.int (0))) (ij_SH, hi, hl, ij_HR) (fun n => rfl) (q1 c1)
set_option maxRecDepth 10000 in
-- ScaleForge$Tray.hasPlace(I)Z
theorem s36_2 {xt : ij_X} {hi : Nat → Nat → Int32} {hl : Nat → Nat → Int64} {Q : Option Value → ij_H → Prop} (a0 : Int32) (q0 : (a0 < 0) → Q (some (.int (0))) (ij_SH, hi, hl, ij_HR)) (q1 : ¬ (a0 < 0) → ((hi 2 2) ≤ a0) → Q (some (.int (0))) (ij_SH, hi, hl, ij_HR)) (q2 : ¬ (a0 < 0) → ¬ ((hi 2 2) ≤ a0) → (60 ≤ a0) → Q (some (.int (0))) (ij_SH, hi, hl, ij_HR)) (q3 : ¬ (a0 < 0) → ¬ ((hi 2 2) ≤ a0) → ¬ (60 ≤ a0) → Q (some (.int (1))) (ij_SH, hi, hl, ij_HR)) : ij_R xt 36 0 [some (.ref 2), some (.int a0)] [] (ij_SH, hi, hl, ij_HR) Q := by
  refine ij_br 2 (a0 < 0) 25 4 [some (.ref 2), some (.int a0)] [] (ij_SH, hi, hl, ij_HR) (fun n => rfl) (fun c1 => ?_) (fun c1 => ?_)
  · skip
    exact ij_ret 2 (some (.int (0))) (ij_SH, hi, hl, ij_HR) (fun n => rfl) (q0 c1)
  · skip
    refine ij_br 4 ((hi 2 2) ≤ a0) 25 12 [some (.ref 2), some (.int a0)] [] (ij_SH, hi, hl, ij_HR) (fun n => rfl) (fun c2 => ?_) (fun c2 => ?_)
    · skip
      exact ij_ret 2 (some (.int (0))) (ij_SH, hi, hl, ij_HR) (fun n => rfl) (q1 c1 c2)
    · skip
      refine ij_br 5 (60 ≤ a0) 25 21 [some (.ref 2), some (.int a0)] [] (ij_SH, hi, hl, ij_HR) (fun n => rfl) (fun c3 => ?_) (fun c3 => ?_)
      · skip
        exact ij_ret 2 (some (.int (0))) (ij_SH, hi, hl, ij_HR) (fun n => rfl) (q2 c1 c2 c3)
      · skip
        exact ij_ret 3 (some (.int (1))) (ij_SH, hi, hl, ij_HR) (fun n => rfl) (q3 c1 c2 c3)
set_option maxRecDepth 10000 in
-- ScaleForge$Tray.hasPlace(I)Z
theorem s36_4 {xt : ij_X} {hi : Nat → Nat → Int32} {hl : Nat → Nat → Int64} {Q : Option Value → ij_H → Prop} (a0 : Int32) (q0 : (a0 < 0) → Q (some (.int (0))) (ij_SH, hi, hl, ij_HR)) (q1 : ¬ (a0 < 0) → ((hi 4 2) ≤ a0) → Q (some (.int (0))) (ij_SH, hi, hl, ij_HR)) (q2 : ¬ (a0 < 0) → ¬ ((hi 4 2) ≤ a0) → (60 ≤ a0) → Q (some (.int (0))) (ij_SH, hi, hl, ij_HR)) (q3 : ¬ (a0 < 0) → ¬ ((hi 4 2) ≤ a0) → ¬ (60 ≤ a0) → Q (some (.int (1))) (ij_SH, hi, hl, ij_HR)) : ij_R xt 36 0 [some (.ref 4), some (.int a0)] [] (ij_SH, hi, hl, ij_HR) Q := by
  refine ij_br 2 (a0 < 0) 25 4 [some (.ref 4), some (.int a0)] [] (ij_SH, hi, hl, ij_HR) (fun n => rfl) (fun c1 => ?_) (fun c1 => ?_)
  · skip
    exact ij_ret 2 (some (.int (0))) (ij_SH, hi, hl, ij_HR) (fun n => rfl) (q0 c1)
  · skip
    refine ij_br 4 ((hi 4 2) ≤ a0) 25 12 [some (.ref 4), some (.int a0)] [] (ij_SH, hi, hl, ij_HR) (fun n => rfl) (fun c2 => ?_) (fun c2 => ?_)
    · skip
      exact ij_ret 2 (some (.int (0))) (ij_SH, hi, hl, ij_HR) (fun n => rfl) (q1 c1 c2)
    · skip
      refine ij_br 5 (60 ≤ a0) 25 21 [some (.ref 4), some (.int a0)] [] (ij_SH, hi, hl, ij_HR) (fun n => rfl) (fun c3 => ?_) (fun c3 => ?_)
      · skip
        exact ij_ret 2 (some (.int (0))) (ij_SH, hi, hl, ij_HR) (fun n => rfl) (q2 c1 c2 c3)
      · skip
        exact ij_ret 3 (some (.int (1))) (ij_SH, hi, hl, ij_HR) (fun n => rfl) (q3 c1 c2 c3)
set_option maxRecDepth 10000 in
-- ScaleForge$Tray.hasPlace(I)Z
theorem s36_6 {xt : ij_X} {hi : Nat → Nat → Int32} {hl : Nat → Nat → Int64} {Q : Option Value → ij_H → Prop} (a0 : Int32) (q0 : (a0 < 0) → Q (some (.int (0))) (ij_SH, hi, hl, ij_HR)) (q1 : ¬ (a0 < 0) → ((hi 6 2) ≤ a0) → Q (some (.int (0))) (ij_SH, hi, hl, ij_HR)) (q2 : ¬ (a0 < 0) → ¬ ((hi 6 2) ≤ a0) → (60 ≤ a0) → Q (some (.int (0))) (ij_SH, hi, hl, ij_HR)) (q3 : ¬ (a0 < 0) → ¬ ((hi 6 2) ≤ a0) → ¬ (60 ≤ a0) → Q (some (.int (1))) (ij_SH, hi, hl, ij_HR)) : ij_R xt 36 0 [some (.ref 6), some (.int a0)] [] (ij_SH, hi, hl, ij_HR) Q := by
  refine ij_br 2 (a0 < 0) 25 4 [some (.ref 6), some (.int a0)] [] (ij_SH, hi, hl, ij_HR) (fun n => rfl) (fun c1 => ?_) (fun c1 => ?_)
  · skip
    exact ij_ret 2 (some (.int (0))) (ij_SH, hi, hl, ij_HR) (fun n => rfl) (q0 c1)
  · skip
    refine ij_br 4 ((hi 6 2) ≤ a0) 25 12 [some (.ref 6), some (.int a0)] [] (ij_SH, hi, hl, ij_HR) (fun n => rfl) (fun c2 => ?_) (fun c2 => ?_)
    · skip
      exact ij_ret 2 (some (.int (0))) (ij_SH, hi, hl, ij_HR) (fun n => rfl) (q1 c1 c2)
    · skip
      refine ij_br 5 (60 ≤ a0) 25 21 [some (.ref 6), some (.int a0)] [] (ij_SH, hi, hl, ij_HR) (fun n => rfl) (fun c3 => ?_) (fun c3 => ?_)
      · skip
        exact ij_ret 2 (some (.int (0))) (ij_SH, hi, hl, ij_HR) (fun n => rfl) (q2 c1 c2 c3)
      · skip
        exact ij_ret 3 (some (.int (1))) (ij_SH, hi, hl, ij_HR) (fun n => rfl) (q3 c1 c2 c3)
set_option maxRecDepth 10000 in
-- ScaleForge$Tray.hasPlace(I)Z
theorem s36_8 {xt : ij_X} {hi : Nat → Nat → Int32} {hl : Nat → Nat → Int64} {Q : Option Value → ij_H → Prop} (a0 : Int32) (q0 : (a0 < 0) → Q (some (.int (0))) (ij_SH, hi, hl, ij_HR)) (q1 : ¬ (a0 < 0) → ((hi 8 2) ≤ a0) → Q (some (.int (0))) (ij_SH, hi, hl, ij_HR)) (q2 : ¬ (a0 < 0) → ¬ ((hi 8 2) ≤ a0) → (60 ≤ a0) → Q (some (.int (0))) (ij_SH, hi, hl, ij_HR)) (q3 : ¬ (a0 < 0) → ¬ ((hi 8 2) ≤ a0) → ¬ (60 ≤ a0) → Q (some (.int (1))) (ij_SH, hi, hl, ij_HR)) : ij_R xt 36 0 [some (.ref 8), some (.int a0)] [] (ij_SH, hi, hl, ij_HR) Q := by
  refine ij_br 2 (a0 < 0) 25 4 [some (.ref 8), some (.int a0)] [] (ij_SH, hi, hl, ij_HR) (fun n => rfl) (fun c1 => ?_) (fun c1 => ?_)
  · skip
    exact ij_ret 2 (some (.int (0))) (ij_SH, hi, hl, ij_HR) (fun n => rfl) (q0 c1)
  · skip
    refine ij_br 4 ((hi 8 2) ≤ a0) 25 12 [some (.ref 8), some (.int a0)] [] (ij_SH, hi, hl, ij_HR) (fun n => rfl) (fun c2 => ?_) (fun c2 => ?_)
    · skip
      exact ij_ret 2 (some (.int (0))) (ij_SH, hi, hl, ij_HR) (fun n => rfl) (q1 c1 c2)
    · skip
      refine ij_br 5 (60 ≤ a0) 25 21 [some (.ref 8), some (.int a0)] [] (ij_SH, hi, hl, ij_HR) (fun n => rfl) (fun c3 => ?_) (fun c3 => ?_)
      · skip
        exact ij_ret 2 (some (.int (0))) (ij_SH, hi, hl, ij_HR) (fun n => rfl) (q2 c1 c2 c3)
      · skip
        exact ij_ret 3 (some (.int (1))) (ij_SH, hi, hl, ij_HR) (fun n => rfl) (q3 c1 c2 c3)
set_option maxRecDepth 10000 in
-- ScaleForgeModel.wrongPlace(II)I
theorem s41_77 {xt : ij_X} {hi : Nat → Nat → Int32} {hl : Nat → Nat → Int64} {Q : Option Value → ij_H → Prop} (a0 : Int32) (a1 : Int32) (q0 : (a0 < 0) → Q (some (.int (1))) (ij_SH, hi, hl, ij_HR)) (q1 : ¬ (a0 < 0) → (4 ≤ a0) → Q (some (.int (1))) (ij_SH, hi, hl, ij_HR)) (q2 : ¬ (a0 < 0) → ¬ (4 ≤ a0) → ((hi 80 (a0).toNatClampNeg) = (-1)) → Q (some (.int (2))) (ij_SH, hi, hl, ij_HR)) (q3 : ¬ (a0 < 0) → ¬ (4 ≤ a0) → ¬ ((hi 80 (a0).toNatClampNeg) = (-1)) → (a1 < 0) → Q (some (.int (3))) (ij_SH, hi, hl, ij_HR)) (q4 : ¬ (a0 < 0) → ¬ (4 ≤ a0) → ¬ ((hi 80 (a0).toNatClampNeg) = (-1)) → ¬ (a1 < 0) → (a1 < (hi 80 (a0).toNatClampNeg)) → Q (some (.int (0))) (ij_SH, hi, hl, ij_HR)) (q5 : ¬ (a0 < 0) → ¬ (4 ≤ a0) → ¬ ((hi 80 (a0).toNatClampNeg) = (-1)) → ¬ (a1 < 0) → ¬ (a1 < (hi 80 (a0).toNatClampNeg)) → Q (some (.int (3))) (ij_SH, hi, hl, ij_HR)) : ij_R xt 41 0 [some (.ref 77), some (.int a0), some (.int a1)] [] (ij_SH, hi, hl, ij_HR) Q := by
  refine ij_call 2 32 [some (.int a0)] [] 4 [some (.ref 77), some (.int a0), some (.int a1)] (ij_SH, hi, hl, ij_HR) (fun n => rfl) (s32 a0 (fun c1 => ?_) (fun c2 c3 => ?_) (fun c4 c5 => ?_))
  · skip
    exact ij_ret 4 (some (.int (1))) (ij_SH, hi, hl, ij_HR) (fun n => rfl) (q0 c1)
  · skip
    exact ij_ret 4 (some (.int (1))) (ij_SH, hi, hl, ij_HR) (fun n => rfl) (q1 c2 c3)
  · skip
    refine ij_go 4 16 [some (.ref 77), some (.int a0), some (.int a1)] [.int a0, .ref 80] (ij_SH, hi, hl, ij_HR) (fun n => rfl) ?_
    refine ij_ial rfl rfl rfl (ij_bd c4 (Int32.not_le.mp c5) (by decide)) ?_
    refine ij_br 2 ((hi 80 (a0).toNatClampNeg) = (-1)) 21 25 [some (.ref 77), some (.int a0), some (.int a1)] [] (ij_SH, hi, hl, ij_HR) (fun n => rfl) (fun c6 => ?_) (fun c6 => ?_)
    · skip
      exact ij_ret 3 (some (.int (2))) (ij_SH, hi, hl, ij_HR) (fun n => rfl) (q2 c4 c5 c6)
    · skip
      refine ij_br 2 (a1 < 0) 39 29 [some (.ref 77), some (.int a0), some (.int a1)] [] (ij_SH, hi, hl, ij_HR) (fun n => rfl) (fun c7 => ?_) (fun c7 => ?_)
      · skip
        exact ij_ret 3 (some (.int (3))) (ij_SH, hi, hl, ij_HR) (fun n => rfl) (q3 c4 c5 c6 c7)
      · skip
        refine ij_go 4 35 [some (.ref 77), some (.int a0), some (.int a1)] [.int a0, .ref 80, .int a1] (ij_SH, hi, hl, ij_HR) (fun n => rfl) ?_
        refine ij_ial rfl rfl rfl (ij_bd c4 (Int32.not_le.mp c5) (by decide)) ?_
        refine ij_br 1 (a1 < (hi 80 (a0).toNatClampNeg)) 43 39 [some (.ref 77), some (.int a0), some (.int a1)] [] (ij_SH, hi, hl, ij_HR) (fun n => rfl) (fun c8 => ?_) (fun c8 => ?_)
        · skip
          exact ij_ret 2 (some (.int (0))) (ij_SH, hi, hl, ij_HR) (fun n => rfl) (q4 c4 c5 c6 c7 c8)
        · skip
          exact ij_ret 3 (some (.int (3))) (ij_SH, hi, hl, ij_HR) (fun n => rfl) (q5 c4 c5 c6 c7 c8)
set_option maxRecDepth 10000 in
-- ScaleForgeModel.cut(JI)J
theorem s42 {xt : ij_X} {hi : Nat → Nat → Int32} {hl : Nat → Nat → Int64} {Q : Option Value → ij_H → Prop} (a0 : Int64) (a1 : Int32) (q0 : (a1 = 0) → Q (some (.long ((((a0 : Int64).toInt32 : Int32).toInt8.toInt32 : Int32).toInt64))) (ij_SH, hi, hl, ij_HR)) (q1 : ¬ (a1 = 0) → (a1 = 1) → Q (some (.long ((((a0 : Int64).toInt32 : Int32).toInt16.toInt32 : Int32).toInt64))) (ij_SH, hi, hl, ij_HR)) (q2 : ¬ (a1 = 0) → ¬ (a1 = 1) → (a1 = 2) → Q (some (.long (((a0 : Int64).toInt32 : Int32).toInt64))) (ij_SH, hi, hl, ij_HR)) (q3 : ¬ (a1 = 0) → ¬ (a1 = 1) → ¬ (a1 = 2) → Q (some (.long a0)) (ij_SH, hi, hl, ij_HR)) : ij_R xt 42 0 [some (.long a0), none, some (.int a1)] [] (ij_SH, hi, hl, ij_HR) Q := by
  refine ij_br 2 (a1 = 0) 4 11 [some (.long a0), none, some (.int a1)] [] (ij_SH, hi, hl, ij_HR) (fun n => rfl) (fun c1 => ?_) (fun c1 => ?_)
  · skip
    exact ij_ret 6 (some (.long ((((a0 : Int64).toInt32 : Int32).toInt8.toInt32 : Int32).toInt64))) (ij_SH, hi, hl, ij_HR) (fun n => rfl) (q0 c1)
  · skip
    refine ij_br 3 (a1 = 1) 16 23 [some (.long a0), none, some (.int a1)] [] (ij_SH, hi, hl, ij_HR) (fun n => rfl) (fun c2 => ?_) (fun c2 => ?_)
    · skip
      exact ij_ret 6 (some (.long ((((a0 : Int64).toInt32 : Int32).toInt16.toInt32 : Int32).toInt64))) (ij_SH, hi, hl, ij_HR) (fun n => rfl) (q1 c1 c2)
    · skip
      refine ij_br 3 (a1 = 2) 28 34 [some (.long a0), none, some (.int a1)] [] (ij_SH, hi, hl, ij_HR) (fun n => rfl) (fun c3 => ?_) (fun c3 => ?_)
      · skip
        exact ij_ret 5 (some (.long (((a0 : Int64).toInt32 : Int32).toInt64))) (ij_SH, hi, hl, ij_HR) (fun n => rfl) (q2 c1 c2 c3)
      · skip
        exact ij_ret 2 (some (.long a0)) (ij_SH, hi, hl, ij_HR) (fun n => rfl) (q3 c1 c2 c3)
set_option maxRecDepth 10000 in
-- ScaleForge.none(I)I
theorem s44_0 {xt : ij_X} {hi : Nat → Nat → Int32} {hl : Nat → Nat → Int64} {Q : Option Value → ij_H → Prop} (a0 : Int32) (q0 : Q (some (.int ((-1)))) (ij_SH, (ij_ui hi 0 0 a0), hl, ij_HR)) : ij_R xt 44 0 [some (.ref 0), some (.int a0)] [] (ij_SH, hi, hl, ij_HR) Q := by
  exact ij_ret 5 (some (.int ((-1)))) (ij_SH, (ij_ui hi 0 0 a0), hl, ij_HR) (fun n => rfl) (q0)
set_option maxRecDepth 10000 in
-- ScaleForge$Tray.at(I)J
theorem s45_2 {xt : ij_X} {hi : Nat → Nat → Int32} {hl : Nat → Nat → Int64} {Q : Option Value → ij_H → Prop} (a0 : Int32) (q0 : (a0 < 0) → Q (some (.long ((Int64.ofNat 18446744073709551615)))) (ij_SH, hi, hl, ij_HR)) (q1 : ¬ (a0 < 0) → ((hi 2 2) ≤ a0) → Q (some (.long ((Int64.ofNat 18446744073709551615)))) (ij_SH, hi, hl, ij_HR)) (q2 : ¬ (a0 < 0) → ¬ ((hi 2 2) ≤ a0) → (60 ≤ a0) → Q (some (.long ((Int64.ofNat 18446744073709551615)))) (ij_SH, hi, hl, ij_HR)) (q3 : ¬ (a0 < 0) → ¬ ((hi 2 2) ≤ a0) → ¬ (60 ≤ a0) → Q (some (.long ((hl 3 (a0).toNatClampNeg)))) (ij_SH, hi, hl, ij_HR)) : ij_R xt 45 0 [some (.ref 2), some (.int a0)] [] (ij_SH, hi, hl, ij_HR) Q := by
  refine ij_call 3 36 [some (.ref 2), some (.int a0)] [] 5 [some (.ref 2), some (.int a0)] (ij_SH, hi, hl, ij_HR) (fun n => rfl) (s36_2 a0 (fun c1 => ?_) (fun c2 c3 => ?_) (fun c4 c5 c6 => ?_) (fun c7 c8 c9 => ?_))
  · skip
    exact ij_ret 3 (some (.long ((Int64.ofNat 18446744073709551615)))) (ij_SH, hi, hl, ij_HR) (fun n => rfl) (q0 c1)
  · skip
    exact ij_ret 3 (some (.long ((Int64.ofNat 18446744073709551615)))) (ij_SH, hi, hl, ij_HR) (fun n => rfl) (q1 c2 c3)
  · skip
    exact ij_ret 3 (some (.long ((Int64.ofNat 18446744073709551615)))) (ij_SH, hi, hl, ij_HR) (fun n => rfl) (q2 c4 c5 c6)
  · skip
    refine ij_go 4 13 [some (.ref 2), some (.int a0)] [.int a0, .ref 3] (ij_SH, hi, hl, ij_HR) (fun n => rfl) ?_
    refine ij_lal rfl rfl rfl (ij_bd c7 (Int32.not_le.mp c9) (by decide)) ?_
    exact ij_ret 2 (some (.long ((hl 3 (a0).toNatClampNeg)))) (ij_SH, hi, hl, ij_HR) (fun n => rfl) (q3 c7 c8 c9)
set_option maxRecDepth 10000 in
-- ScaleForge$Tray.at(I)J
theorem s45_4 {xt : ij_X} {hi : Nat → Nat → Int32} {hl : Nat → Nat → Int64} {Q : Option Value → ij_H → Prop} (a0 : Int32) (q0 : (a0 < 0) → Q (some (.long ((Int64.ofNat 18446744073709551615)))) (ij_SH, hi, hl, ij_HR)) (q1 : ¬ (a0 < 0) → ((hi 4 2) ≤ a0) → Q (some (.long ((Int64.ofNat 18446744073709551615)))) (ij_SH, hi, hl, ij_HR)) (q2 : ¬ (a0 < 0) → ¬ ((hi 4 2) ≤ a0) → (60 ≤ a0) → Q (some (.long ((Int64.ofNat 18446744073709551615)))) (ij_SH, hi, hl, ij_HR)) (q3 : ¬ (a0 < 0) → ¬ ((hi 4 2) ≤ a0) → ¬ (60 ≤ a0) → Q (some (.long ((hl 5 (a0).toNatClampNeg)))) (ij_SH, hi, hl, ij_HR)) : ij_R xt 45 0 [some (.ref 4), some (.int a0)] [] (ij_SH, hi, hl, ij_HR) Q := by
  refine ij_call 3 36 [some (.ref 4), some (.int a0)] [] 5 [some (.ref 4), some (.int a0)] (ij_SH, hi, hl, ij_HR) (fun n => rfl) (s36_4 a0 (fun c1 => ?_) (fun c2 c3 => ?_) (fun c4 c5 c6 => ?_) (fun c7 c8 c9 => ?_))
  · skip
    exact ij_ret 3 (some (.long ((Int64.ofNat 18446744073709551615)))) (ij_SH, hi, hl, ij_HR) (fun n => rfl) (q0 c1)
  · skip
    exact ij_ret 3 (some (.long ((Int64.ofNat 18446744073709551615)))) (ij_SH, hi, hl, ij_HR) (fun n => rfl) (q1 c2 c3)
  · skip
    exact ij_ret 3 (some (.long ((Int64.ofNat 18446744073709551615)))) (ij_SH, hi, hl, ij_HR) (fun n => rfl) (q2 c4 c5 c6)
  · skip
    refine ij_go 4 13 [some (.ref 4), some (.int a0)] [.int a0, .ref 5] (ij_SH, hi, hl, ij_HR) (fun n => rfl) ?_
    refine ij_lal rfl rfl rfl (ij_bd c7 (Int32.not_le.mp c9) (by decide)) ?_
    exact ij_ret 2 (some (.long ((hl 5 (a0).toNatClampNeg)))) (ij_SH, hi, hl, ij_HR) (fun n => rfl) (q3 c7 c8 c9)
set_option maxRecDepth 10000 in
-- ScaleForge$Tray.at(I)J
theorem s45_6 {xt : ij_X} {hi : Nat → Nat → Int32} {hl : Nat → Nat → Int64} {Q : Option Value → ij_H → Prop} (a0 : Int32) (q0 : (a0 < 0) → Q (some (.long ((Int64.ofNat 18446744073709551615)))) (ij_SH, hi, hl, ij_HR)) (q1 : ¬ (a0 < 0) → ((hi 6 2) ≤ a0) → Q (some (.long ((Int64.ofNat 18446744073709551615)))) (ij_SH, hi, hl, ij_HR)) (q2 : ¬ (a0 < 0) → ¬ ((hi 6 2) ≤ a0) → (60 ≤ a0) → Q (some (.long ((Int64.ofNat 18446744073709551615)))) (ij_SH, hi, hl, ij_HR)) (q3 : ¬ (a0 < 0) → ¬ ((hi 6 2) ≤ a0) → ¬ (60 ≤ a0) → Q (some (.long ((hl 7 (a0).toNatClampNeg)))) (ij_SH, hi, hl, ij_HR)) : ij_R xt 45 0 [some (.ref 6), some (.int a0)] [] (ij_SH, hi, hl, ij_HR) Q := by
  refine ij_call 3 36 [some (.ref 6), some (.int a0)] [] 5 [some (.ref 6), some (.int a0)] (ij_SH, hi, hl, ij_HR) (fun n => rfl) (s36_6 a0 (fun c1 => ?_) (fun c2 c3 => ?_) (fun c4 c5 c6 => ?_) (fun c7 c8 c9 => ?_))
  · skip
    exact ij_ret 3 (some (.long ((Int64.ofNat 18446744073709551615)))) (ij_SH, hi, hl, ij_HR) (fun n => rfl) (q0 c1)
  · skip
    exact ij_ret 3 (some (.long ((Int64.ofNat 18446744073709551615)))) (ij_SH, hi, hl, ij_HR) (fun n => rfl) (q1 c2 c3)
  · skip
    exact ij_ret 3 (some (.long ((Int64.ofNat 18446744073709551615)))) (ij_SH, hi, hl, ij_HR) (fun n => rfl) (q2 c4 c5 c6)
  · skip
    refine ij_go 4 13 [some (.ref 6), some (.int a0)] [.int a0, .ref 7] (ij_SH, hi, hl, ij_HR) (fun n => rfl) ?_
    refine ij_lal rfl rfl rfl (ij_bd c7 (Int32.not_le.mp c9) (by decide)) ?_
    exact ij_ret 2 (some (.long ((hl 7 (a0).toNatClampNeg)))) (ij_SH, hi, hl, ij_HR) (fun n => rfl) (q3 c7 c8 c9)
set_option maxRecDepth 10000 in
-- ScaleForge$Tray.at(I)J
theorem s45_8 {xt : ij_X} {hi : Nat → Nat → Int32} {hl : Nat → Nat → Int64} {Q : Option Value → ij_H → Prop} (a0 : Int32) (q0 : (a0 < 0) → Q (some (.long ((Int64.ofNat 18446744073709551615)))) (ij_SH, hi, hl, ij_HR)) (q1 : ¬ (a0 < 0) → ((hi 8 2) ≤ a0) → Q (some (.long ((Int64.ofNat 18446744073709551615)))) (ij_SH, hi, hl, ij_HR)) (q2 : ¬ (a0 < 0) → ¬ ((hi 8 2) ≤ a0) → (60 ≤ a0) → Q (some (.long ((Int64.ofNat 18446744073709551615)))) (ij_SH, hi, hl, ij_HR)) (q3 : ¬ (a0 < 0) → ¬ ((hi 8 2) ≤ a0) → ¬ (60 ≤ a0) → Q (some (.long ((hl 9 (a0).toNatClampNeg)))) (ij_SH, hi, hl, ij_HR)) : ij_R xt 45 0 [some (.ref 8), some (.int a0)] [] (ij_SH, hi, hl, ij_HR) Q := by
  refine ij_call 3 36 [some (.ref 8), some (.int a0)] [] 5 [some (.ref 8), some (.int a0)] (ij_SH, hi, hl, ij_HR) (fun n => rfl) (s36_8 a0 (fun c1 => ?_) (fun c2 c3 => ?_) (fun c4 c5 c6 => ?_) (fun c7 c8 c9 => ?_))
  · skip
    exact ij_ret 3 (some (.long ((Int64.ofNat 18446744073709551615)))) (ij_SH, hi, hl, ij_HR) (fun n => rfl) (q0 c1)
  · skip
    exact ij_ret 3 (some (.long ((Int64.ofNat 18446744073709551615)))) (ij_SH, hi, hl, ij_HR) (fun n => rfl) (q1 c2 c3)
  · skip
    exact ij_ret 3 (some (.long ((Int64.ofNat 18446744073709551615)))) (ij_SH, hi, hl, ij_HR) (fun n => rfl) (q2 c4 c5 c6)
  · skip
    refine ij_go 4 13 [some (.ref 8), some (.int a0)] [.int a0, .ref 9] (ij_SH, hi, hl, ij_HR) (fun n => rfl) ?_
    refine ij_lal rfl rfl rfl (ij_bd c7 (Int32.not_le.mp c9) (by decide)) ?_
    exact ij_ret 2 (some (.long ((hl 9 (a0).toNatClampNeg)))) (ij_SH, hi, hl, ij_HR) (fun n => rfl) (q3 c7 c8 c9)
set_option maxRecDepth 10000 in
-- ScaleForge$Tray.hasRun(II)Z
theorem s48_2 {xt : ij_X} {hi : Nat → Nat → Int32} {hl : Nat → Nat → Int64} {Q : Option Value → ij_H → Prop} (a0 : Int32) (a1 : Int32) (q0 : (a0 < 0) → Q (some (.int (0))) (ij_SH, hi, hl, ij_HR)) (q1 : ¬ (a0 < 0) → (a1 < 0) → Q (some (.int (0))) (ij_SH, hi, hl, ij_HR)) (q2 : ¬ (a0 < 0) → ¬ (a1 < 0) → (0 < (lg_cmp ((a0 : Int32).toInt64 + (a1 : Int32).toInt64) ((hi 2 2) : Int32).toInt64)) → Q (some (.int (0))) (ij_SH, hi, hl, ij_HR)) (q3 : ¬ (a0 < 0) → ¬ (a1 < 0) → ¬ (0 < (lg_cmp ((a0 : Int32).toInt64 + (a1 : Int32).toInt64) ((hi 2 2) : Int32).toInt64)) → Q (some (.int (1))) (ij_SH, hi, hl, ij_HR)) : ij_R xt 48 0 [some (.ref 2), some (.int a0), some (.int a1)] [] (ij_SH, hi, hl, ij_HR) Q := by
  refine ij_br 2 (a0 < 0) 26 4 [some (.ref 2), some (.int a0), some (.int a1)] [] (ij_SH, hi, hl, ij_HR) (fun n => rfl) (fun c1 => ?_) (fun c1 => ?_)
  · skip
    exact ij_ret 2 (some (.int (0))) (ij_SH, hi, hl, ij_HR) (fun n => rfl) (q0 c1)
  · skip
    refine ij_br 2 (a1 < 0) 26 8 [some (.ref 2), some (.int a0), some (.int a1)] [] (ij_SH, hi, hl, ij_HR) (fun n => rfl) (fun c2 => ?_) (fun c2 => ?_)
    · skip
      exact ij_ret 2 (some (.int (0))) (ij_SH, hi, hl, ij_HR) (fun n => rfl) (q1 c1 c2)
    · skip
      refine ij_br 10 (0 < (lg_cmp ((a0 : Int32).toInt64 + (a1 : Int32).toInt64) ((hi 2 2) : Int32).toInt64)) 26 22 [some (.ref 2), some (.int a0), some (.int a1)] [] (ij_SH, hi, hl, ij_HR) (fun n => rfl) (fun c3 => ?_) (fun c3 => ?_)
      · skip
        exact ij_ret 2 (some (.int (0))) (ij_SH, hi, hl, ij_HR) (fun n => rfl) (q2 c1 c2 c3)
      · skip
        exact ij_ret 3 (some (.int (1))) (ij_SH, hi, hl, ij_HR) (fun n => rfl) (q3 c1 c2 c3)
set_option maxRecDepth 10000 in
-- ScaleForge$Tray.hasRun(II)Z
theorem s48_4 {xt : ij_X} {hi : Nat → Nat → Int32} {hl : Nat → Nat → Int64} {Q : Option Value → ij_H → Prop} (a0 : Int32) (a1 : Int32) (q0 : (a0 < 0) → Q (some (.int (0))) (ij_SH, hi, hl, ij_HR)) (q1 : ¬ (a0 < 0) → (a1 < 0) → Q (some (.int (0))) (ij_SH, hi, hl, ij_HR)) (q2 : ¬ (a0 < 0) → ¬ (a1 < 0) → (0 < (lg_cmp ((a0 : Int32).toInt64 + (a1 : Int32).toInt64) ((hi 4 2) : Int32).toInt64)) → Q (some (.int (0))) (ij_SH, hi, hl, ij_HR)) (q3 : ¬ (a0 < 0) → ¬ (a1 < 0) → ¬ (0 < (lg_cmp ((a0 : Int32).toInt64 + (a1 : Int32).toInt64) ((hi 4 2) : Int32).toInt64)) → Q (some (.int (1))) (ij_SH, hi, hl, ij_HR)) : ij_R xt 48 0 [some (.ref 4), some (.int a0), some (.int a1)] [] (ij_SH, hi, hl, ij_HR) Q := by
  refine ij_br 2 (a0 < 0) 26 4 [some (.ref 4), some (.int a0), some (.int a1)] [] (ij_SH, hi, hl, ij_HR) (fun n => rfl) (fun c1 => ?_) (fun c1 => ?_)
  · skip
    exact ij_ret 2 (some (.int (0))) (ij_SH, hi, hl, ij_HR) (fun n => rfl) (q0 c1)
  · skip
    refine ij_br 2 (a1 < 0) 26 8 [some (.ref 4), some (.int a0), some (.int a1)] [] (ij_SH, hi, hl, ij_HR) (fun n => rfl) (fun c2 => ?_) (fun c2 => ?_)
    · skip
      exact ij_ret 2 (some (.int (0))) (ij_SH, hi, hl, ij_HR) (fun n => rfl) (q1 c1 c2)
    · skip
      refine ij_br 10 (0 < (lg_cmp ((a0 : Int32).toInt64 + (a1 : Int32).toInt64) ((hi 4 2) : Int32).toInt64)) 26 22 [some (.ref 4), some (.int a0), some (.int a1)] [] (ij_SH, hi, hl, ij_HR) (fun n => rfl) (fun c3 => ?_) (fun c3 => ?_)
      · skip
        exact ij_ret 2 (some (.int (0))) (ij_SH, hi, hl, ij_HR) (fun n => rfl) (q2 c1 c2 c3)
      · skip
        exact ij_ret 3 (some (.int (1))) (ij_SH, hi, hl, ij_HR) (fun n => rfl) (q3 c1 c2 c3)
set_option maxRecDepth 10000 in
-- ScaleForge$Tray.hasRun(II)Z
theorem s48_6 {xt : ij_X} {hi : Nat → Nat → Int32} {hl : Nat → Nat → Int64} {Q : Option Value → ij_H → Prop} (a0 : Int32) (a1 : Int32) (q0 : (a0 < 0) → Q (some (.int (0))) (ij_SH, hi, hl, ij_HR)) (q1 : ¬ (a0 < 0) → (a1 < 0) → Q (some (.int (0))) (ij_SH, hi, hl, ij_HR)) (q2 : ¬ (a0 < 0) → ¬ (a1 < 0) → (0 < (lg_cmp ((a0 : Int32).toInt64 + (a1 : Int32).toInt64) ((hi 6 2) : Int32).toInt64)) → Q (some (.int (0))) (ij_SH, hi, hl, ij_HR)) (q3 : ¬ (a0 < 0) → ¬ (a1 < 0) → ¬ (0 < (lg_cmp ((a0 : Int32).toInt64 + (a1 : Int32).toInt64) ((hi 6 2) : Int32).toInt64)) → Q (some (.int (1))) (ij_SH, hi, hl, ij_HR)) : ij_R xt 48 0 [some (.ref 6), some (.int a0), some (.int a1)] [] (ij_SH, hi, hl, ij_HR) Q := by
  refine ij_br 2 (a0 < 0) 26 4 [some (.ref 6), some (.int a0), some (.int a1)] [] (ij_SH, hi, hl, ij_HR) (fun n => rfl) (fun c1 => ?_) (fun c1 => ?_)
  · skip
    exact ij_ret 2 (some (.int (0))) (ij_SH, hi, hl, ij_HR) (fun n => rfl) (q0 c1)
  · skip
    refine ij_br 2 (a1 < 0) 26 8 [some (.ref 6), some (.int a0), some (.int a1)] [] (ij_SH, hi, hl, ij_HR) (fun n => rfl) (fun c2 => ?_) (fun c2 => ?_)
    · skip
      exact ij_ret 2 (some (.int (0))) (ij_SH, hi, hl, ij_HR) (fun n => rfl) (q1 c1 c2)
    · skip
      refine ij_br 10 (0 < (lg_cmp ((a0 : Int32).toInt64 + (a1 : Int32).toInt64) ((hi 6 2) : Int32).toInt64)) 26 22 [some (.ref 6), some (.int a0), some (.int a1)] [] (ij_SH, hi, hl, ij_HR) (fun n => rfl) (fun c3 => ?_) (fun c3 => ?_)
      · skip
        exact ij_ret 2 (some (.int (0))) (ij_SH, hi, hl, ij_HR) (fun n => rfl) (q2 c1 c2 c3)
      · skip
        exact ij_ret 3 (some (.int (1))) (ij_SH, hi, hl, ij_HR) (fun n => rfl) (q3 c1 c2 c3)
set_option maxRecDepth 10000 in
-- ScaleForge$Tray.hasRun(II)Z
theorem s48_8 {xt : ij_X} {hi : Nat → Nat → Int32} {hl : Nat → Nat → Int64} {Q : Option Value → ij_H → Prop} (a0 : Int32) (a1 : Int32) (q0 : (a0 < 0) → Q (some (.int (0))) (ij_SH, hi, hl, ij_HR)) (q1 : ¬ (a0 < 0) → (a1 < 0) → Q (some (.int (0))) (ij_SH, hi, hl, ij_HR)) (q2 : ¬ (a0 < 0) → ¬ (a1 < 0) → (0 < (lg_cmp ((a0 : Int32).toInt64 + (a1 : Int32).toInt64) ((hi 8 2) : Int32).toInt64)) → Q (some (.int (0))) (ij_SH, hi, hl, ij_HR)) (q3 : ¬ (a0 < 0) → ¬ (a1 < 0) → ¬ (0 < (lg_cmp ((a0 : Int32).toInt64 + (a1 : Int32).toInt64) ((hi 8 2) : Int32).toInt64)) → Q (some (.int (1))) (ij_SH, hi, hl, ij_HR)) : ij_R xt 48 0 [some (.ref 8), some (.int a0), some (.int a1)] [] (ij_SH, hi, hl, ij_HR) Q := by
  refine ij_br 2 (a0 < 0) 26 4 [some (.ref 8), some (.int a0), some (.int a1)] [] (ij_SH, hi, hl, ij_HR) (fun n => rfl) (fun c1 => ?_) (fun c1 => ?_)
  · skip
    exact ij_ret 2 (some (.int (0))) (ij_SH, hi, hl, ij_HR) (fun n => rfl) (q0 c1)
  · skip
    refine ij_br 2 (a1 < 0) 26 8 [some (.ref 8), some (.int a0), some (.int a1)] [] (ij_SH, hi, hl, ij_HR) (fun n => rfl) (fun c2 => ?_) (fun c2 => ?_)
    · skip
      exact ij_ret 2 (some (.int (0))) (ij_SH, hi, hl, ij_HR) (fun n => rfl) (q1 c1 c2)
    · skip
      refine ij_br 10 (0 < (lg_cmp ((a0 : Int32).toInt64 + (a1 : Int32).toInt64) ((hi 8 2) : Int32).toInt64)) 26 22 [some (.ref 8), some (.int a0), some (.int a1)] [] (ij_SH, hi, hl, ij_HR) (fun n => rfl) (fun c3 => ?_) (fun c3 => ?_)
      · skip
        exact ij_ret 2 (some (.int (0))) (ij_SH, hi, hl, ij_HR) (fun n => rfl) (q2 c1 c2 c3)
      · skip
        exact ij_ret 3 (some (.int (1))) (ij_SH, hi, hl, ij_HR) (fun n => rfl) (q3 c1 c2 c3)
set_option maxRecDepth 10000 in
-- ScaleForge$Reader.begin(I)V
theorem s55_10 {xt : ij_X} {hi : Nat → Nat → Int32} {hl : Nat → Nat → Int64} {Q : Option Value → ij_H → Prop} (a0 : Int32) (q0 : Q (none) (ij_SH, (ij_ui (ij_ui (ij_ui (ij_ui hi 10 2 a0) 10 3 0) 10 7 0) 10 8 (-1)), hl, ij_HR)) : ij_R xt 55 0 [some (.ref 10), some (.int a0)] [] (ij_SH, hi, hl, ij_HR) Q := by
  exact ij_ret 13 (none) (ij_SH, (ij_ui (ij_ui (ij_ui (ij_ui hi 10 2 a0) 10 3 0) 10 7 0) 10 8 (-1)), hl, ij_HR) (fun n => rfl) (q0)
set_option maxRecDepth 10000 in
-- ScaleForge$Reader.byteAt(I)I
theorem s56_10 {xt : ij_X} {hi : Nat → Nat → Int32} {hl : Nat → Nat → Int64} {Q : Option Value → ij_H → Prop} (a0 : Int32) (q0 : (a0 < 0) → Q (some (.int (0))) (ij_SH, hi, hl, ij_HR)) (q1 : ¬ (a0 < 0) → (900 ≤ a0) → Q (some (.int (0))) (ij_SH, hi, hl, ij_HR)) (q2 : ¬ (a0 < 0) → ¬ (900 ≤ a0) → Q (some (.int (((hi 11 (a0).toNatClampNeg) &&& 255)))) (ij_SH, hi, hl, ij_HR)) : ij_R xt 56 0 [some (.ref 10), some (.int a0)] [] (ij_SH, hi, hl, ij_HR) Q := by
  refine ij_br 2 (a0 < 0) 26 4 [some (.ref 10), some (.int a0)] [] (ij_SH, hi, hl, ij_HR) (fun n => rfl) (fun c1 => ?_) (fun c1 => ?_)
  · skip
    exact ij_ret 2 (some (.int (0))) (ij_SH, hi, hl, ij_HR) (fun n => rfl) (q0 c1)
  · skip
    refine ij_br 5 (900 ≤ a0) 26 13 [some (.ref 10), some (.int a0)] [] (ij_SH, hi, hl, ij_HR) (fun n => rfl) (fun c2 => ?_) (fun c2 => ?_)
    · skip
      exact ij_ret 2 (some (.int (0))) (ij_SH, hi, hl, ij_HR) (fun n => rfl) (q1 c1 c2)
    · skip
      refine ij_go 3 18 [some (.ref 10), some (.int a0)] [.int a0, .ref 11] (ij_SH, hi, hl, ij_HR) (fun n => rfl) ?_
      refine ij_bal rfl rfl rfl (ij_bd c1 (Int32.not_le.mp c2) (by decide)) ?_
      exact ij_ret 4 (some (.int (((hi 11 (a0).toNatClampNeg) &&& 255)))) (ij_SH, hi, hl, ij_HR) (fun n => rfl) (q2 c1 c2)
set_option maxRecDepth 10000 in
-- ScaleForge$Reader.isBlank(I)Z
theorem s57 {xt : ij_X} {hi : Nat → Nat → Int32} {hl : Nat → Nat → Int64} {Q : Option Value → ij_H → Prop} (a0 : Int32) (q0 : (a0 = 10) → Q (some (.int (1))) (ij_SH, hi, hl, ij_HR)) (q1 : ¬ (a0 = 10) → (a0 = 32) → Q (some (.int (1))) (ij_SH, hi, hl, ij_HR)) (q2 : ¬ (a0 = 10) → ¬ (a0 = 32) → Q (some (.int (0))) (ij_SH, hi, hl, ij_HR)) : ij_R xt 57 0 [some (.int a0)] [] (ij_SH, hi, hl, ij_HR) Q := by
  refine ij_br 3 (a0 = 10) 12 6 [some (.int a0)] [] (ij_SH, hi, hl, ij_HR) (fun n => rfl) (fun c1 => ?_) (fun c1 => ?_)
  · skip
    exact ij_ret 3 (some (.int (1))) (ij_SH, hi, hl, ij_HR) (fun n => rfl) (q0 c1)
  · skip
    refine ij_br 3 (a0 = 32) 12 16 [some (.int a0)] [] (ij_SH, hi, hl, ij_HR) (fun n => rfl) (fun c2 => ?_) (fun c2 => ?_)
    · skip
      exact ij_ret 3 (some (.int (1))) (ij_SH, hi, hl, ij_HR) (fun n => rfl) (q1 c1 c2)
    · skip
      exact ij_ret 2 (some (.int (0))) (ij_SH, hi, hl, ij_HR) (fun n => rfl) (q2 c1 c2)
set_option maxRecDepth 10000 in
-- ScaleForge$Reader.isLetter(I)Z
theorem s58 {xt : ij_X} {hi : Nat → Nat → Int32} {hl : Nat → Nat → Int64} {Q : Option Value → ij_H → Prop} (a0 : Int32) (q0 : (a0 < 97) → Q (some (.int (0))) (ij_SH, hi, hl, ij_HR)) (q1 : ¬ (a0 < 97) → (122 < a0) → Q (some (.int (0))) (ij_SH, hi, hl, ij_HR)) (q2 : ¬ (a0 < 97) → ¬ (122 < a0) → Q (some (.int (1))) (ij_SH, hi, hl, ij_HR)) : ij_R xt 58 0 [some (.int a0)] [] (ij_SH, hi, hl, ij_HR) Q := by
  refine ij_br 3 (a0 < 97) 16 6 [some (.int a0)] [] (ij_SH, hi, hl, ij_HR) (fun n => rfl) (fun c1 => ?_) (fun c1 => ?_)
  · skip
    exact ij_ret 2 (some (.int (0))) (ij_SH, hi, hl, ij_HR) (fun n => rfl) (q0 c1)
  · skip
    refine ij_br 3 (122 < a0) 16 12 [some (.int a0)] [] (ij_SH, hi, hl, ij_HR) (fun n => rfl) (fun c2 => ?_) (fun c2 => ?_)
    · skip
      exact ij_ret 2 (some (.int (0))) (ij_SH, hi, hl, ij_HR) (fun n => rfl) (q1 c1 c2)
    · skip
      exact ij_ret 3 (some (.int (1))) (ij_SH, hi, hl, ij_HR) (fun n => rfl) (q2 c1 c2)
set_option maxRecDepth 10000 in
-- ScaleForge$Reader.isDigit(I)Z
theorem s60 {xt : ij_X} {hi : Nat → Nat → Int32} {hl : Nat → Nat → Int64} {Q : Option Value → ij_H → Prop} (a0 : Int32) (q0 : (a0 < 48) → Q (some (.int (0))) (ij_SH, hi, hl, ij_HR)) (q1 : ¬ (a0 < 48) → (57 < a0) → Q (some (.int (0))) (ij_SH, hi, hl, ij_HR)) (q2 : ¬ (a0 < 48) → ¬ (57 < a0) → Q (some (.int (1))) (ij_SH, hi, hl, ij_HR)) : ij_R xt 60 0 [some (.int a0)] [] (ij_SH, hi, hl, ij_HR) Q := by
  refine ij_br 3 (a0 < 48) 16 6 [some (.int a0)] [] (ij_SH, hi, hl, ij_HR) (fun n => rfl) (fun c1 => ?_) (fun c1 => ?_)
  · skip
    exact ij_ret 2 (some (.int (0))) (ij_SH, hi, hl, ij_HR) (fun n => rfl) (q0 c1)
  · skip
    refine ij_br 3 (57 < a0) 16 12 [some (.int a0)] [] (ij_SH, hi, hl, ij_HR) (fun n => rfl) (fun c2 => ?_) (fun c2 => ?_)
    · skip
      exact ij_ret 2 (some (.int (0))) (ij_SH, hi, hl, ij_HR) (fun n => rfl) (q1 c1 c2)
    · skip
      exact ij_ret 3 (some (.int (1))) (ij_SH, hi, hl, ij_HR) (fun n => rfl) (q2 c1 c2)
set_option maxRecDepth 10000 in
-- ScaleForge$Reader.isSign(I)Z
theorem s62 {xt : ij_X} {hi : Nat → Nat → Int32} {hl : Nat → Nat → Int64} {Q : Option Value → ij_H → Prop} (a0 : Int32) (q0 : (a0 = 59) → Q (some (.int (1))) (ij_SH, hi, hl, ij_HR)) (q1 : ¬ (a0 = 59) → (a0 = 60) → Q (some (.int (1))) (ij_SH, hi, hl, ij_HR)) (q2 : ¬ (a0 = 59) → ¬ (a0 = 60) → (a0 = 62) → Q (some (.int (1))) (ij_SH, hi, hl, ij_HR)) (q3 : ¬ (a0 = 59) → ¬ (a0 = 60) → ¬ (a0 = 62) → (a0 = 61) → Q (some (.int (1))) (ij_SH, hi, hl, ij_HR)) (q4 : ¬ (a0 = 59) → ¬ (a0 = 60) → ¬ (a0 = 62) → ¬ (a0 = 61) → Q (some (.int (0))) (ij_SH, hi, hl, ij_HR)) : ij_R xt 62 0 [some (.int a0)] [] (ij_SH, hi, hl, ij_HR) Q := by
  refine ij_br 3 (a0 = 59) 24 6 [some (.int a0)] [] (ij_SH, hi, hl, ij_HR) (fun n => rfl) (fun c1 => ?_) (fun c1 => ?_)
  · skip
    exact ij_ret 3 (some (.int (1))) (ij_SH, hi, hl, ij_HR) (fun n => rfl) (q0 c1)
  · skip
    refine ij_br 3 (a0 = 60) 24 12 [some (.int a0)] [] (ij_SH, hi, hl, ij_HR) (fun n => rfl) (fun c2 => ?_) (fun c2 => ?_)
    · skip
      exact ij_ret 3 (some (.int (1))) (ij_SH, hi, hl, ij_HR) (fun n => rfl) (q1 c1 c2)
    · skip
      refine ij_br 3 (a0 = 62) 24 18 [some (.int a0)] [] (ij_SH, hi, hl, ij_HR) (fun n => rfl) (fun c3 => ?_) (fun c3 => ?_)
      · skip
        exact ij_ret 3 (some (.int (1))) (ij_SH, hi, hl, ij_HR) (fun n => rfl) (q2 c1 c2 c3)
      · skip
        refine ij_br 3 (a0 = 61) 24 28 [some (.int a0)] [] (ij_SH, hi, hl, ij_HR) (fun n => rfl) (fun c4 => ?_) (fun c4 => ?_)
        · skip
          exact ij_ret 3 (some (.int (1))) (ij_SH, hi, hl, ij_HR) (fun n => rfl) (q3 c1 c2 c3 c4)
        · skip
          exact ij_ret 2 (some (.int (0))) (ij_SH, hi, hl, ij_HR) (fun n => rfl) (q4 c1 c2 c3 c4)
set_option maxRecDepth 10000 in
-- ScaleForge$Reader.blame(I)Z
theorem s63_10 {xt : ij_X} {hi : Nat → Nat → Int32} {hl : Nat → Nat → Int64} {Q : Option Value → ij_H → Prop} (a0 : Int32) (q0 : Q (some (.int (0))) (ij_SH, (ij_ui (ij_ui hi 10 7 a0) 10 8 (hi 10 5)), hl, ij_HR)) : ij_R xt 63 0 [some (.ref 10), some (.int a0)] [] (ij_SH, hi, hl, ij_HR) Q := by
  exact ij_ret 9 (some (.int (0))) (ij_SH, (ij_ui (ij_ui hi 10 7 a0) 10 8 (hi 10 5)), hl, ij_HR) (fun n => rfl) (q0)
set_option maxRecDepth 10000 in
-- ScaleForge$Bits.has(JI)Z
theorem s74 {xt : ij_X} {hi : Nat → Nat → Int32} {hl : Nat → Nat → Int64} {Q : Option Value → ij_H → Prop} (a0 : Int64) (a1 : Int32) (q0 : (a1 < 0) → Q (some (.int (0))) (ij_SH, hi, hl, ij_HR)) (q1 : ¬ (a1 < 0) → (64 ≤ a1) → Q (some (.int (0))) (ij_SH, hi, hl, ij_HR)) (q2 : ¬ (a1 < 0) → ¬ (64 ≤ a1) → ((lg_cmp (((a0 : Int64).toUInt64 >>> ((a1 : Int32).toInt64.toUInt64 &&& Int64.toUInt64 63)).toInt64 &&& 1) 0) = 0) → Q (some (.int (0))) (ij_SH, hi, hl, ij_HR)) (q3 : ¬ (a1 < 0) → ¬ (64 ≤ a1) → ¬ ((lg_cmp (((a0 : Int64).toUInt64 >>> ((a1 : Int32).toInt64.toUInt64 &&& Int64.toUInt64 63)).toInt64 &&& 1) 0) = 0) → Q (some (.int (1))) (ij_SH, hi, hl, ij_HR)) : ij_R xt 74 0 [some (.long a0), none, some (.int a1)] [] (ij_SH, hi, hl, ij_HR) Q := by
  refine ij_br 2 (a1 < 0) 24 4 [some (.long a0), none, some (.int a1)] [] (ij_SH, hi, hl, ij_HR) (fun n => rfl) (fun c1 => ?_) (fun c1 => ?_)
  · skip
    exact ij_ret 2 (some (.int (0))) (ij_SH, hi, hl, ij_HR) (fun n => rfl) (q0 c1)
  · skip
    refine ij_br 3 (64 ≤ a1) 24 10 [some (.long a0), none, some (.int a1)] [] (ij_SH, hi, hl, ij_HR) (fun n => rfl) (fun c2 => ?_) (fun c2 => ?_)
    · skip
      exact ij_ret 2 (some (.int (0))) (ij_SH, hi, hl, ij_HR) (fun n => rfl) (q1 c1 c2)
    · skip
      refine ij_br 8 ((lg_cmp (((a0 : Int64).toUInt64 >>> ((a1 : Int32).toInt64.toUInt64 &&& Int64.toUInt64 63)).toInt64 &&& 1) 0) = 0) 24 20 [some (.long a0), none, some (.int a1)] [] (ij_SH, hi, hl, ij_HR) (fun n => rfl) (fun c3 => ?_) (fun c3 => ?_)
      · skip
        exact ij_ret 2 (some (.int (0))) (ij_SH, hi, hl, ij_HR) (fun n => rfl) (q2 c1 c2 c3)
      · skip
        exact ij_ret 3 (some (.int (1))) (ij_SH, hi, hl, ij_HR) (fun n => rfl) (q3 c1 c2 c3)
set_option maxRecDepth 10000 in
-- ScaleForge$Reader.isSignNow(C)Z
theorem s76_10 {xt : ij_X} {hi : Nat → Nat → Int32} {hl : Nat → Nat → Int64} {Q : Option Value → ij_H → Prop} (a0 : Int32) (q0 : ((hi 10 4) = 3) → ((hi 10 6) = a0) → Q (some (.int (1))) (ij_SH, hi, hl, ij_HR)) (q1 : ((hi 10 4) = 3) → ¬ ((hi 10 6) = a0) → Q (some (.int (0))) (ij_SH, hi, hl, ij_HR)) (q2 : ¬ ((hi 10 4) = 3) → Q (some (.int (0))) (ij_SH, hi, hl, ij_HR)) : ij_R xt 76 0 [some (.ref 10), some (.int a0)] [] (ij_SH, hi, hl, ij_HR) Q := by
  refine ij_br 4 ((hi 10 4) = 3) 8 20 [some (.ref 10), some (.int a0)] [] (ij_SH, hi, hl, ij_HR) (fun n => rfl) (fun c1 => ?_) (fun c1 => ?_)
  · skip
    refine ij_br 4 ((hi 10 6) = a0) 16 20 [some (.ref 10), some (.int a0)] [] (ij_SH, hi, hl, ij_HR) (fun n => rfl) (fun c2 => ?_) (fun c2 => ?_)
    · skip
      exact ij_ret 3 (some (.int (1))) (ij_SH, hi, hl, ij_HR) (fun n => rfl) (q0 c1 c2)
    · skip
      exact ij_ret 2 (some (.int (0))) (ij_SH, hi, hl, ij_HR) (fun n => rfl) (q1 c1 c2)
  · skip
    exact ij_ret 2 (some (.int (0))) (ij_SH, hi, hl, ij_HR) (fun n => rfl) (q2 c1)
set_option maxRecDepth 10000 in
-- ScaleForge$Scale.isTone(I)Z
theorem s77_23 {xt : ij_X} {hi : Nat → Nat → Int32} {hl : Nat → Nat → Int64} {Q : Option Value → ij_H → Prop} (a0 : Int32) (q0 : (a0 < 0) → Q (some (.int (0))) (ij_SH, hi, hl, ij_HR)) (q1 : ¬ (a0 < 0) → ((hi 24 1) ≤ a0) → Q (some (.int (0))) (ij_SH, hi, hl, ij_HR)) (q2 : ¬ (a0 < 0) → ¬ ((hi 24 1) ≤ a0) → Q (some (.int (1))) (ij_SH, hi, hl, ij_HR)) : ij_R xt 77 0 [some (.ref 23), some (.int a0)] [] (ij_SH, hi, hl, ij_HR) Q := by
  refine ij_br 2 (a0 < 0) 18 4 [some (.ref 23), some (.int a0)] [] (ij_SH, hi, hl, ij_HR) (fun n => rfl) (fun c1 => ?_) (fun c1 => ?_)
  · skip
    exact ij_ret 2 (some (.int (0))) (ij_SH, hi, hl, ij_HR) (fun n => rfl) (q0 c1)
  · skip
    refine ij_br 6 ((hi 24 1) ≤ a0) 18 14 [some (.ref 23), some (.int a0)] [] (ij_SH, hi, hl, ij_HR) (fun n => rfl) (fun c2 => ?_) (fun c2 => ?_)
    · skip
      exact ij_ret 2 (some (.int (0))) (ij_SH, hi, hl, ij_HR) (fun n => rfl) (q1 c1 c2)
    · skip
      exact ij_ret 3 (some (.int (1))) (ij_SH, hi, hl, ij_HR) (fun n => rfl) (q2 c1 c2)
set_option maxRecDepth 10000 in
-- ScaleForge$Scale.isTone(I)Z
theorem s77_44 {xt : ij_X} {hi : Nat → Nat → Int32} {hl : Nat → Nat → Int64} {Q : Option Value → ij_H → Prop} (a0 : Int32) (q0 : (a0 < 0) → Q (some (.int (0))) (ij_SH, hi, hl, ij_HR)) (q1 : ¬ (a0 < 0) → ((hi 45 1) ≤ a0) → Q (some (.int (0))) (ij_SH, hi, hl, ij_HR)) (q2 : ¬ (a0 < 0) → ¬ ((hi 45 1) ≤ a0) → Q (some (.int (1))) (ij_SH, hi, hl, ij_HR)) : ij_R xt 77 0 [some (.ref 44), some (.int a0)] [] (ij_SH, hi, hl, ij_HR) Q := by
  refine ij_br 2 (a0 < 0) 18 4 [some (.ref 44), some (.int a0)] [] (ij_SH, hi, hl, ij_HR) (fun n => rfl) (fun c1 => ?_) (fun c1 => ?_)
  · skip
    exact ij_ret 2 (some (.int (0))) (ij_SH, hi, hl, ij_HR) (fun n => rfl) (q0 c1)
  · skip
    refine ij_br 6 ((hi 45 1) ≤ a0) 18 14 [some (.ref 44), some (.int a0)] [] (ij_SH, hi, hl, ij_HR) (fun n => rfl) (fun c2 => ?_) (fun c2 => ?_)
    · skip
      exact ij_ret 2 (some (.int (0))) (ij_SH, hi, hl, ij_HR) (fun n => rfl) (q1 c1 c2)
    · skip
      exact ij_ret 3 (some (.int (1))) (ij_SH, hi, hl, ij_HR) (fun n => rfl) (q2 c1 c2)
set_option maxRecDepth 10000 in
-- ScaleForge$Scale.isTone(I)Z
theorem s77_13 {xt : ij_X} {hi : Nat → Nat → Int32} {hl : Nat → Nat → Int64} {Q : Option Value → ij_H → Prop} (a0 : Int32) (q0 : (a0 < 0) → Q (some (.int (0))) (ij_SH, hi, hl, ij_HR)) (q1 : ¬ (a0 < 0) → ((hi 14 1) ≤ a0) → Q (some (.int (0))) (ij_SH, hi, hl, ij_HR)) (q2 : ¬ (a0 < 0) → ¬ ((hi 14 1) ≤ a0) → Q (some (.int (1))) (ij_SH, hi, hl, ij_HR)) : ij_R xt 77 0 [some (.ref 13), some (.int a0)] [] (ij_SH, hi, hl, ij_HR) Q := by
  refine ij_br 2 (a0 < 0) 18 4 [some (.ref 13), some (.int a0)] [] (ij_SH, hi, hl, ij_HR) (fun n => rfl) (fun c1 => ?_) (fun c1 => ?_)
  · skip
    exact ij_ret 2 (some (.int (0))) (ij_SH, hi, hl, ij_HR) (fun n => rfl) (q0 c1)
  · skip
    refine ij_br 6 ((hi 14 1) ≤ a0) 18 14 [some (.ref 13), some (.int a0)] [] (ij_SH, hi, hl, ij_HR) (fun n => rfl) (fun c2 => ?_) (fun c2 => ?_)
    · skip
      exact ij_ret 2 (some (.int (0))) (ij_SH, hi, hl, ij_HR) (fun n => rfl) (q1 c1 c2)
    · skip
      exact ij_ret 3 (some (.int (1))) (ij_SH, hi, hl, ij_HR) (fun n => rfl) (q2 c1 c2)
set_option maxRecDepth 10000 in
-- ScaleForge$Scale.period()I
theorem s80_23 {xt : ij_X} {hi : Nat → Nat → Int32} {hl : Nat → Nat → Int64} {Q : Option Value → ij_H → Prop} (q0 : Q (some (.int ((hi 24 1)))) (ij_SH, hi, hl, ij_HR)) : ij_R xt 80 0 [some (.ref 23)] [] (ij_SH, hi, hl, ij_HR) Q := by
  exact ij_ret 5 (some (.int ((hi 24 1)))) (ij_SH, hi, hl, ij_HR) (fun n => rfl) (q0)
set_option maxRecDepth 10000 in
-- ScaleForge$Scale.period()I
theorem s80_44 {xt : ij_X} {hi : Nat → Nat → Int32} {hl : Nat → Nat → Int64} {Q : Option Value → ij_H → Prop} (q0 : Q (some (.int ((hi 45 1)))) (ij_SH, hi, hl, ij_HR)) : ij_R xt 80 0 [some (.ref 44)] [] (ij_SH, hi, hl, ij_HR) Q := by
  exact ij_ret 5 (some (.int ((hi 45 1)))) (ij_SH, hi, hl, ij_HR) (fun n => rfl) (q0)
set_option maxRecDepth 10000 in
-- ScaleForge$Scale.period()I
theorem s80_13 {xt : ij_X} {hi : Nat → Nat → Int32} {hl : Nat → Nat → Int64} {Q : Option Value → ij_H → Prop} (q0 : Q (some (.int ((hi 14 1)))) (ij_SH, hi, hl, ij_HR)) : ij_R xt 80 0 [some (.ref 13)] [] (ij_SH, hi, hl, ij_HR) Q := by
  exact ij_ret 5 (some (.int ((hi 14 1)))) (ij_SH, hi, hl, ij_HR) (fun n => rfl) (q0)
set_option maxRecDepth 10000 in
-- ScaleForge$Scale.setPart(II)V
theorem s83_23 {xt : ij_X} {hi : Nat → Nat → Int32} {hl : Nat → Nat → Int64} {Q : Option Value → ij_H → Prop} (a0 : Int32) (a1 : Int32) (q0 : (a0 < 0) → Q (none) (ij_SH, hi, hl, ij_HR)) (q1 : ¬ (a0 < 0) → (9 ≤ a0) → Q (none) (ij_SH, hi, hl, ij_HR)) (q2 : ¬ (a0 < 0) → ¬ (9 ≤ a0) → Q (none) (ij_SH, (ij_ui hi 24 (a0).toNatClampNeg a1), hl, ij_HR)) : ij_R xt 83 0 [some (.ref 23), some (.int a0), some (.int a1)] [] (ij_SH, hi, hl, ij_HR) Q := by
  refine ij_br 2 (a0 < 0) 20 4 [some (.ref 23), some (.int a0), some (.int a1)] [] (ij_SH, hi, hl, ij_HR) (fun n => rfl) (fun c1 => ?_) (fun c1 => ?_)
  · skip
    exact ij_ret 1 (none) (ij_SH, hi, hl, ij_HR) (fun n => rfl) (q0 c1)
  · skip
    refine ij_br 5 (9 ≤ a0) 20 13 [some (.ref 23), some (.int a0), some (.int a1)] [] (ij_SH, hi, hl, ij_HR) (fun n => rfl) (fun c2 => ?_) (fun c2 => ?_)
    · skip
      exact ij_ret 1 (none) (ij_SH, hi, hl, ij_HR) (fun n => rfl) (q1 c1 c2)
    · skip
      refine ij_go 4 19 [some (.ref 23), some (.int a0), some (.int a1)] [.int a1, .int a0, .ref 24] (ij_SH, hi, hl, ij_HR) (fun n => rfl) ?_
      refine ij_ias rfl rfl rfl (ij_bd c1 (Int32.not_le.mp c2) (by decide)) ?_
      exact ij_ret 1 (none) (ij_SH, (ij_ui hi 24 (a0).toNatClampNeg a1), hl, ij_HR) (fun n => rfl) (q2 c1 c2)
set_option maxRecDepth 10000 in
-- ScaleForge$Scale.setPart(II)V
theorem s83_44 {xt : ij_X} {hi : Nat → Nat → Int32} {hl : Nat → Nat → Int64} {Q : Option Value → ij_H → Prop} (a0 : Int32) (a1 : Int32) (q0 : (a0 < 0) → Q (none) (ij_SH, hi, hl, ij_HR)) (q1 : ¬ (a0 < 0) → (9 ≤ a0) → Q (none) (ij_SH, hi, hl, ij_HR)) (q2 : ¬ (a0 < 0) → ¬ (9 ≤ a0) → Q (none) (ij_SH, (ij_ui hi 45 (a0).toNatClampNeg a1), hl, ij_HR)) : ij_R xt 83 0 [some (.ref 44), some (.int a0), some (.int a1)] [] (ij_SH, hi, hl, ij_HR) Q := by
  refine ij_br 2 (a0 < 0) 20 4 [some (.ref 44), some (.int a0), some (.int a1)] [] (ij_SH, hi, hl, ij_HR) (fun n => rfl) (fun c1 => ?_) (fun c1 => ?_)
  · skip
    exact ij_ret 1 (none) (ij_SH, hi, hl, ij_HR) (fun n => rfl) (q0 c1)
  · skip
    refine ij_br 5 (9 ≤ a0) 20 13 [some (.ref 44), some (.int a0), some (.int a1)] [] (ij_SH, hi, hl, ij_HR) (fun n => rfl) (fun c2 => ?_) (fun c2 => ?_)
    · skip
      exact ij_ret 1 (none) (ij_SH, hi, hl, ij_HR) (fun n => rfl) (q1 c1 c2)
    · skip
      refine ij_go 4 19 [some (.ref 44), some (.int a0), some (.int a1)] [.int a1, .int a0, .ref 45] (ij_SH, hi, hl, ij_HR) (fun n => rfl) ?_
      refine ij_ias rfl rfl rfl (ij_bd c1 (Int32.not_le.mp c2) (by decide)) ?_
      exact ij_ret 1 (none) (ij_SH, (ij_ui hi 45 (a0).toNatClampNeg a1), hl, ij_HR) (fun n => rfl) (q2 c1 c2)
set_option maxRecDepth 10000 in
-- ScaleForge$Scale.setPart(II)V
theorem s83_13 {xt : ij_X} {hi : Nat → Nat → Int32} {hl : Nat → Nat → Int64} {Q : Option Value → ij_H → Prop} (a0 : Int32) (a1 : Int32) (q0 : (a0 < 0) → Q (none) (ij_SH, hi, hl, ij_HR)) (q1 : ¬ (a0 < 0) → (9 ≤ a0) → Q (none) (ij_SH, hi, hl, ij_HR)) (q2 : ¬ (a0 < 0) → ¬ (9 ≤ a0) → Q (none) (ij_SH, (ij_ui hi 14 (a0).toNatClampNeg a1), hl, ij_HR)) : ij_R xt 83 0 [some (.ref 13), some (.int a0), some (.int a1)] [] (ij_SH, hi, hl, ij_HR) Q := by
  refine ij_br 2 (a0 < 0) 20 4 [some (.ref 13), some (.int a0), some (.int a1)] [] (ij_SH, hi, hl, ij_HR) (fun n => rfl) (fun c1 => ?_) (fun c1 => ?_)
  · skip
    exact ij_ret 1 (none) (ij_SH, hi, hl, ij_HR) (fun n => rfl) (q0 c1)
  · skip
    refine ij_br 5 (9 ≤ a0) 20 13 [some (.ref 13), some (.int a0), some (.int a1)] [] (ij_SH, hi, hl, ij_HR) (fun n => rfl) (fun c2 => ?_) (fun c2 => ?_)
    · skip
      exact ij_ret 1 (none) (ij_SH, hi, hl, ij_HR) (fun n => rfl) (q1 c1 c2)
    · skip
      refine ij_go 4 19 [some (.ref 13), some (.int a0), some (.int a1)] [.int a1, .int a0, .ref 14] (ij_SH, hi, hl, ij_HR) (fun n => rfl) ?_
      refine ij_ias rfl rfl rfl (ij_bd c1 (Int32.not_le.mp c2) (by decide)) ?_
      exact ij_ret 1 (none) (ij_SH, (ij_ui hi 14 (a0).toNatClampNeg a1), hl, ij_HR) (fun n => rfl) (q2 c1 c2)
set_option maxRecDepth 10000 in
-- ScaleForge$Scale.degreesMany()I
theorem s89_23 {xt : ij_X} {hi : Nat → Nat → Int32} {hl : Nat → Nat → Int64} {Q : Option Value → ij_H → Prop} (q0 : Q (some (.int ((ij_pc (hl 23 4))))) (ij_SH, hi, hl, ij_HR)) : ij_R xt 89 0 [some (.ref 23)] [] (ij_SH, hi, hl, ij_HR) Q := by
  refine ij_call 3 88 [some (.long ((hl 23 4))), none] [] 7 [some (.ref 23)] (ij_SH, hi, hl, ij_HR) (fun n => rfl) (s_bitCount (hl 23 4) ?_)
  -- back
  exact ij_ret 1 (some (.int ((ij_pc (hl 23 4))))) (ij_SH, hi, hl, ij_HR) (fun n => rfl) (q0)
set_option maxRecDepth 10000 in
-- ScaleForge$Scale.degreesMany()I
theorem s89_44 {xt : ij_X} {hi : Nat → Nat → Int32} {hl : Nat → Nat → Int64} {Q : Option Value → ij_H → Prop} (q0 : Q (some (.int ((ij_pc (hl 44 4))))) (ij_SH, hi, hl, ij_HR)) : ij_R xt 89 0 [some (.ref 44)] [] (ij_SH, hi, hl, ij_HR) Q := by
  refine ij_call 3 88 [some (.long ((hl 44 4))), none] [] 7 [some (.ref 44)] (ij_SH, hi, hl, ij_HR) (fun n => rfl) (s_bitCount (hl 44 4) ?_)
  -- back
  exact ij_ret 1 (some (.int ((ij_pc (hl 44 4))))) (ij_SH, hi, hl, ij_HR) (fun n => rfl) (q0)
set_option maxRecDepth 10000 in
-- ScaleForge$Scale.degreesMany()I
theorem s89_13 {xt : ij_X} {hi : Nat → Nat → Int32} {hl : Nat → Nat → Int64} {Q : Option Value → ij_H → Prop} (q0 : Q (some (.int ((ij_pc (hl 13 4))))) (ij_SH, hi, hl, ij_HR)) : ij_R xt 89 0 [some (.ref 13)] [] (ij_SH, hi, hl, ij_HR) Q := by
  refine ij_call 3 88 [some (.long ((hl 13 4))), none] [] 7 [some (.ref 13)] (ij_SH, hi, hl, ij_HR) (fun n => rfl) (s_bitCount (hl 13 4) ?_)
  -- back
  exact ij_ret 1 (some (.int ((ij_pc (hl 13 4))))) (ij_SH, hi, hl, ij_HR) (fun n => rfl) (q0)
set_option maxRecDepth 10000 in
-- ScaleForge.give(I)I
theorem s90_0 {xt : ij_X} {hi : Nat → Nat → Int32} {hl : Nat → Nat → Int64} {Q : Option Value → ij_H → Prop} (a0 : Int32) (q0 : Q (some (.int a0)) (ij_SH, (ij_ui hi 0 0 0), hl, ij_HR)) : ij_R xt 90 0 [some (.ref 0), some (.int a0)] [] (ij_SH, hi, hl, ij_HR) Q := by
  exact ij_ret 5 (some (.int a0)) (ij_SH, (ij_ui hi 0 0 0), hl, ij_HR) (fun n => rfl) (q0)
set_option maxRecDepth 10000 in
-- ScaleForgeModel.isSmall(I)Z
theorem s93 {xt : ij_X} {hi : Nat → Nat → Int32} {hl : Nat → Nat → Int64} {Q : Option Value → ij_H → Prop} (a0 : Int32) (q0 : (a0 < 97) → Q (some (.int (0))) (ij_SH, hi, hl, ij_HR)) (q1 : ¬ (a0 < 97) → (122 < a0) → Q (some (.int (0))) (ij_SH, hi, hl, ij_HR)) (q2 : ¬ (a0 < 97) → ¬ (122 < a0) → Q (some (.int (1))) (ij_SH, hi, hl, ij_HR)) : ij_R xt 93 0 [some (.int a0)] [] (ij_SH, hi, hl, ij_HR) Q := by
  refine ij_br 3 (a0 < 97) 16 6 [some (.int a0)] [] (ij_SH, hi, hl, ij_HR) (fun n => rfl) (fun c1 => ?_) (fun c1 => ?_)
  · skip
    exact ij_ret 2 (some (.int (0))) (ij_SH, hi, hl, ij_HR) (fun n => rfl) (q0 c1)
  · skip
    refine ij_br 3 (122 < a0) 16 12 [some (.int a0)] [] (ij_SH, hi, hl, ij_HR) (fun n => rfl) (fun c2 => ?_) (fun c2 => ?_)
    · skip
      exact ij_ret 2 (some (.int (0))) (ij_SH, hi, hl, ij_HR) (fun n => rfl) (q1 c1 c2)
    · skip
      exact ij_ret 3 (some (.int (1))) (ij_SH, hi, hl, ij_HR) (fun n => rfl) (q2 c1 c2)
set_option maxRecDepth 10000 in
-- ScaleForgeModel.isDigit(I)Z
theorem s94 {xt : ij_X} {hi : Nat → Nat → Int32} {hl : Nat → Nat → Int64} {Q : Option Value → ij_H → Prop} (a0 : Int32) (q0 : (a0 < 48) → Q (some (.int (0))) (ij_SH, hi, hl, ij_HR)) (q1 : ¬ (a0 < 48) → (57 < a0) → Q (some (.int (0))) (ij_SH, hi, hl, ij_HR)) (q2 : ¬ (a0 < 48) → ¬ (57 < a0) → Q (some (.int (1))) (ij_SH, hi, hl, ij_HR)) : ij_R xt 94 0 [some (.int a0)] [] (ij_SH, hi, hl, ij_HR) Q := by
  refine ij_br 3 (a0 < 48) 16 6 [some (.int a0)] [] (ij_SH, hi, hl, ij_HR) (fun n => rfl) (fun c1 => ?_) (fun c1 => ?_)
  · skip
    exact ij_ret 2 (some (.int (0))) (ij_SH, hi, hl, ij_HR) (fun n => rfl) (q0 c1)
  · skip
    refine ij_br 3 (57 < a0) 16 12 [some (.int a0)] [] (ij_SH, hi, hl, ij_HR) (fun n => rfl) (fun c2 => ?_) (fun c2 => ?_)
    · skip
      exact ij_ret 2 (some (.int (0))) (ij_SH, hi, hl, ij_HR) (fun n => rfl) (q1 c1 c2)
    · skip
      exact ij_ret 3 (some (.int (1))) (ij_SH, hi, hl, ij_HR) (fun n => rfl) (q2 c1 c2)
set_option maxRecDepth 10000 in
-- java/lang/Math.min(II)I
theorem s95 {xt : ij_X} {hi : Nat → Nat → Int32} {hl : Nat → Nat → Int64} {Q : Option Value → ij_H → Prop} (a0 : Int32) (a1 : Int32) (q0 : (a1 < a0) → Q (some (.int a1)) (ij_SH, hi, hl, ij_HR)) (q1 : ¬ (a1 < a0) → Q (some (.int a0)) (ij_SH, hi, hl, ij_HR)) : ij_R xt 95 0 [some (.int a0), some (.int a1)] [] (ij_SH, hi, hl, ij_HR) Q := by
  refine ij_br 3 (a1 < a0) 9 5 [some (.int a0), some (.int a1)] [] (ij_SH, hi, hl, ij_HR) (fun n => rfl) (fun c1 => ?_) (fun c1 => ?_)
  · skip
    exact ij_ret 2 (some (.int a1)) (ij_SH, hi, hl, ij_HR) (fun n => rfl) (q0 c1)
  · skip
    exact ij_ret 3 (some (.int a0)) (ij_SH, hi, hl, ij_HR) (fun n => rfl) (q1 c1)
set_option maxRecDepth 10000 in
-- ScaleForgeModel.refuse(I)I
theorem s98_77 {xt : ij_X} {hi : Nat → Nat → Int32} {hl : Nat → Nat → Int64} {Q : Option Value → ij_H → Prop} (a0 : Int32) (q0 : Q (some (.int ((-1)))) (ij_SH, (ij_ui hi 77 1 a0), hl, ij_HR)) : ij_R xt 98 0 [some (.ref 77), some (.int a0)] [] (ij_SH, hi, hl, ij_HR) Q := by
  exact ij_ret 5 (some (.int ((-1)))) (ij_SH, (ij_ui hi 77 1 a0), hl, ij_HR) (fun n => rfl) (q0)
set_option maxRecDepth 10000 in
-- ScaleForgeModel.fails(I)Z
theorem s100_77 {xt : ij_X} {hi : Nat → Nat → Int32} {hl : Nat → Nat → Int64} {Q : Option Value → ij_H → Prop} (a0 : Int32) (q0 : ((hi 77 17) = 0) → ((hi 77 11) = 1) → Q (some (.int (0))) (ij_SH, (ij_ui (ij_ui hi 77 17 1) 77 16 (hi 77 12)), hl, ij_HR)) (q1 : ((hi 77 17) = 0) → ¬ ((hi 77 11) = 1) → Q (some (.int (0))) (ij_SH, (ij_ui (ij_ui hi 77 17 a0) 77 16 (hi 77 12)), hl, ij_HR)) (q2 : ¬ ((hi 77 17) = 0) → Q (some (.int (0))) (ij_SH, hi, hl, ij_HR)) : ij_R xt 100 0 [some (.ref 77), some (.int a0)] [] (ij_SH, hi, hl, ij_HR) Q := by
  refine ij_br 3 ((hi 77 17) = 0) 7 32 [some (.ref 77), some (.int a0)] [] (ij_SH, hi, hl, ij_HR) (fun n => rfl) (fun c1 => ?_) (fun c1 => ?_)
  · skip
    refine ij_br 5 ((hi 77 11) = 1) 16 20 [some (.ref 77), some (.int a0)] [.ref 77] (ij_SH, hi, hl, ij_HR) (fun n => rfl) (fun c2 => ?_) (fun c2 => ?_)
    · skip
      exact ij_ret 9 (some (.int (0))) (ij_SH, (ij_ui (ij_ui hi 77 17 1) 77 16 (hi 77 12)), hl, ij_HR) (fun n => rfl) (q0 c1 c2)
    · skip
      exact ij_ret 8 (some (.int (0))) (ij_SH, (ij_ui (ij_ui hi 77 17 a0) 77 16 (hi 77 12)), hl, ij_HR) (fun n => rfl) (q1 c1 c2)
  · skip
    exact ij_ret 2 (some (.int (0))) (ij_SH, hi, hl, ij_HR) (fun n => rfl) (q2 c1)
set_option maxRecDepth 10000 in
-- ScaleForgeModel.isIn(II)Z
theorem s101_77 {xt : ij_X} {hi : Nat → Nat → Int32} {hl : Nat → Nat → Int64} {Q : Option Value → ij_H → Prop} (a0 : Int32) (a1 : Int32) (q0 : (((a0 >>> (a1 &&& 31)) &&& 1) = 1) → Q (some (.int (1))) (ij_SH, hi, hl, ij_HR)) (q1 : ¬ (((a0 >>> (a1 &&& 31)) &&& 1) = 1) → Q (some (.int (0))) (ij_SH, hi, hl, ij_HR)) : ij_R xt 101 0 [some (.ref 77), some (.int a0), some (.int a1)] [] (ij_SH, hi, hl, ij_HR) Q := by
  refine ij_br 7 (((a0 >>> (a1 &&& 31)) &&& 1) = 1) 9 13 [some (.ref 77), some (.int a0), some (.int a1)] [] (ij_SH, hi, hl, ij_HR) (fun n => rfl) (fun c1 => ?_) (fun c1 => ?_)
  · skip
    exact ij_ret 3 (some (.int (1))) (ij_SH, hi, hl, ij_HR) (fun n => rfl) (q0 c1)
  · skip
    exact ij_ret 2 (some (.int (0))) (ij_SH, hi, hl, ij_HR) (fun n => rfl) (q1 c1)
set_option maxRecDepth 10000 in
-- ScaleForgeModel.isSign(I)Z
theorem s104_77 {xt : ij_X} {hi : Nat → Nat → Int32} {hl : Nat → Nat → Int64} {Q : Option Value → ij_H → Prop} (a0 : Int32) (q0 : ((hi 77 11) = 4) → ((hi 77 14) = a0) → Q (some (.int (1))) (ij_SH, hi, hl, ij_HR)) (q1 : ((hi 77 11) = 4) → ¬ ((hi 77 14) = a0) → Q (some (.int (0))) (ij_SH, hi, hl, ij_HR)) (q2 : ¬ ((hi 77 11) = 4) → Q (some (.int (0))) (ij_SH, hi, hl, ij_HR)) : ij_R xt 104 0 [some (.ref 77), some (.int a0)] [] (ij_SH, hi, hl, ij_HR) Q := by
  refine ij_br 4 ((hi 77 11) = 4) 8 20 [some (.ref 77), some (.int a0)] [] (ij_SH, hi, hl, ij_HR) (fun n => rfl) (fun c1 => ?_) (fun c1 => ?_)
  · skip
    refine ij_br 4 ((hi 77 14) = a0) 16 20 [some (.ref 77), some (.int a0)] [] (ij_SH, hi, hl, ij_HR) (fun n => rfl) (fun c2 => ?_) (fun c2 => ?_)
    · skip
      exact ij_ret 3 (some (.int (1))) (ij_SH, hi, hl, ij_HR) (fun n => rfl) (q0 c1 c2)
    · skip
      exact ij_ret 2 (some (.int (0))) (ij_SH, hi, hl, ij_HR) (fun n => rfl) (q1 c1 c2)
  · skip
    exact ij_ret 2 (some (.int (0))) (ij_SH, hi, hl, ij_HR) (fun n => rfl) (q2 c1)
set_option maxRecDepth 10000 in
-- ScaleForgeModel.leastOf(I)I
theorem s106 {xt : ij_X} {hi : Nat → Nat → Int32} {hl : Nat → Nat → Int64} {Q : Option Value → ij_H → Prop} (a0 : Int32) (q0 : (a0 = 1) → Q (some (.int (2))) (ij_SH, hi, hl, ij_HR)) (q1 : ¬ (a0 = 1) → (a0 = 3) → Q (some (.int (1))) (ij_SH, hi, hl, ij_HR)) (q2 : ¬ (a0 = 1) → ¬ (a0 = 3) → (a0 = 6) → Q (some (.int (1))) (ij_SH, hi, hl, ij_HR)) (q3 : ¬ (a0 = 1) → ¬ (a0 = 3) → ¬ (a0 = 6) → Q (some (.int (0))) (ij_SH, hi, hl, ij_HR)) : ij_R xt 106 0 [some (.int a0)] [] (ij_SH, hi, hl, ij_HR) Q := by
  refine ij_br 3 (a0 = 1) 5 9 [some (.int a0)] [] (ij_SH, hi, hl, ij_HR) (fun n => rfl) (fun c1 => ?_) (fun c1 => ?_)
  · skip
    exact ij_ret 3 (some (.int (2))) (ij_SH, hi, hl, ij_HR) (fun n => rfl) (q0 c1)
  · skip
    refine ij_br 3 (a0 = 3) 20 14 [some (.int a0)] [] (ij_SH, hi, hl, ij_HR) (fun n => rfl) (fun c2 => ?_) (fun c2 => ?_)
    · skip
      exact ij_ret 3 (some (.int (1))) (ij_SH, hi, hl, ij_HR) (fun n => rfl) (q1 c1 c2)
    · skip
      refine ij_br 3 (a0 = 6) 20 24 [some (.int a0)] [] (ij_SH, hi, hl, ij_HR) (fun n => rfl) (fun c3 => ?_) (fun c3 => ?_)
      · skip
        exact ij_ret 3 (some (.int (1))) (ij_SH, hi, hl, ij_HR) (fun n => rfl) (q2 c1 c2 c3)
      · skip
        exact ij_ret 2 (some (.int (0))) (ij_SH, hi, hl, ij_HR) (fun n => rfl) (q3 c1 c2 c3)
set_option maxRecDepth 10000 in
-- ScaleForgeModel.isFolded(I)Z
theorem s109 {xt : ij_X} {hi : Nat → Nat → Int32} {hl : Nat → Nat → Int64} {Q : Option Value → ij_H → Prop} (a0 : Int32) (q0 : (a0 = 2) → Q (some (.int (1))) (ij_SH, hi, hl, ij_HR)) (q1 : ¬ (a0 = 2) → (a0 = 5) → Q (some (.int (1))) (ij_SH, hi, hl, ij_HR)) (q2 : ¬ (a0 = 2) → ¬ (a0 = 5) → (a0 = 7) → Q (some (.int (1))) (ij_SH, hi, hl, ij_HR)) (q3 : ¬ (a0 = 2) → ¬ (a0 = 5) → ¬ (a0 = 7) → (a0 = 8) → Q (some (.int (1))) (ij_SH, hi, hl, ij_HR)) (q4 : ¬ (a0 = 2) → ¬ (a0 = 5) → ¬ (a0 = 7) → ¬ (a0 = 8) → Q (some (.int (0))) (ij_SH, hi, hl, ij_HR)) : ij_R xt 109 0 [some (.int a0)] [] (ij_SH, hi, hl, ij_HR) Q := by
  refine ij_br 3 (a0 = 2) 22 5 [some (.int a0)] [] (ij_SH, hi, hl, ij_HR) (fun n => rfl) (fun c1 => ?_) (fun c1 => ?_)
  · skip
    exact ij_ret 3 (some (.int (1))) (ij_SH, hi, hl, ij_HR) (fun n => rfl) (q0 c1)
  · skip
    refine ij_br 3 (a0 = 5) 22 10 [some (.int a0)] [] (ij_SH, hi, hl, ij_HR) (fun n => rfl) (fun c2 => ?_) (fun c2 => ?_)
    · skip
      exact ij_ret 3 (some (.int (1))) (ij_SH, hi, hl, ij_HR) (fun n => rfl) (q1 c1 c2)
    · skip
      refine ij_br 3 (a0 = 7) 22 16 [some (.int a0)] [] (ij_SH, hi, hl, ij_HR) (fun n => rfl) (fun c3 => ?_) (fun c3 => ?_)
      · skip
        exact ij_ret 3 (some (.int (1))) (ij_SH, hi, hl, ij_HR) (fun n => rfl) (q2 c1 c2 c3)
      · skip
        refine ij_br 3 (a0 = 8) 22 26 [some (.int a0)] [] (ij_SH, hi, hl, ij_HR) (fun n => rfl) (fun c4 => ?_) (fun c4 => ?_)
        · skip
          exact ij_ret 3 (some (.int (1))) (ij_SH, hi, hl, ij_HR) (fun n => rfl) (q3 c1 c2 c3 c4)
        · skip
          exact ij_ret 2 (some (.int (0))) (ij_SH, hi, hl, ij_HR) (fun n => rfl) (q4 c1 c2 c3 c4)
set_option maxRecDepth 10000 in
-- ScaleForgeModel.gives(I)I
theorem s115_77 {xt : ij_X} {hi : Nat → Nat → Int32} {hl : Nat → Nat → Int64} {Q : Option Value → ij_H → Prop} (a0 : Int32) (q0 : Q (some (.int a0)) (ij_SH, (ij_ui hi 77 1 0), hl, ij_HR)) : ij_R xt 115 0 [some (.ref 77), some (.int a0)] [] (ij_SH, hi, hl, ij_HR) Q := by
  exact ij_ret 5 (some (.int a0)) (ij_SH, (ij_ui hi 77 1 0), hl, ij_HR) (fun n => rfl) (q0)
set_option maxRecDepth 10000 in
-- ScaleForgeModel.taken(I)I
theorem s116_77 {xt : ij_X} {hi : Nat → Nat → Int32} {hl : Nat → Nat → Int64} {Q : Option Value → ij_H → Prop} (a0 : Int32) (q0 : ((hi 77 17) ≤ 0) → Q (some (.int a0)) (ij_SH, (ij_ui (ij_ui hi 77 15 (hi 77 17)) 77 1 0), hl, ij_HR)) (q1 : ¬ ((hi 77 17) ≤ 0) → Q (some (.int ((-1)))) (ij_SH, (ij_ui (ij_ui hi 77 15 (hi 77 17)) 77 1 9), hl, ij_HR)) : ij_R xt 116 0 [some (.ref 77), some (.int a0)] [] (ij_SH, hi, hl, ij_HR) Q := by
  refine ij_br 7 ((hi 77 17) ≤ 0) 24 15 [some (.ref 77), some (.int a0)] [] (ij_SH, (ij_ui hi 77 15 (hi 77 17)), hl, ij_HR) (fun n => rfl) (fun c1 => ?_) (fun c1 => ?_)
  · skip
    refine ij_call 3 115 [some (.ref 77), some (.int a0)] [] 29 [some (.ref 77), some (.int a0)] (ij_SH, (ij_ui hi 77 15 (hi 77 17)), hl, ij_HR) (fun n => rfl) (s115_77 a0 ?_)
    -- back
    exact ij_ret 1 (some (.int a0)) (ij_SH, (ij_ui (ij_ui hi 77 15 (hi 77 17)) 77 1 0), hl, ij_HR) (fun n => rfl) (q0 c1)
  · skip
    refine ij_call 3 98 [some (.ref 77), some (.int (9))] [] 21 [some (.ref 77), some (.int a0)] (ij_SH, (ij_ui hi 77 15 (hi 77 17)), hl, ij_HR) (fun n => rfl) (s98_77 9 ?_)
    -- back
    exact ij_ret 2 (some (.int ((-1)))) (ij_SH, (ij_ui (ij_ui hi 77 15 (hi 77 17)) 77 1 9), hl, ij_HR) (fun n => rfl) (q1 c1)
set_option maxRecDepth 10000 in
-- ScaleForge$Studies.hasStep(I)Z
theorem s118_26 {xt : ij_X} {hi : Nat → Nat → Int32} {hl : Nat → Nat → Int64} {Q : Option Value → ij_H → Prop} (a0 : Int32) (q0 : (a0 < 0) → Q (some (.int (0))) (ij_SH, hi, hl, ij_HR)) (q1 : ¬ (a0 < 0) → ((hi 26 4) ≤ a0) → Q (some (.int (0))) (ij_SH, hi, hl, ij_HR)) (q2 : ¬ (a0 < 0) → ¬ ((hi 26 4) ≤ a0) → (30 ≤ a0) → Q (some (.int (0))) (ij_SH, hi, hl, ij_HR)) (q3 : ¬ (a0 < 0) → ¬ ((hi 26 4) ≤ a0) → ¬ (30 ≤ a0) → Q (some (.int (1))) (ij_SH, hi, hl, ij_HR)) : ij_R xt 118 0 [some (.ref 26), some (.int a0)] [] (ij_SH, hi, hl, ij_HR) Q := by
  refine ij_br 2 (a0 < 0) 22 4 [some (.ref 26), some (.int a0)] [] (ij_SH, hi, hl, ij_HR) (fun n => rfl) (fun c1 => ?_) (fun c1 => ?_)
  · skip
    exact ij_ret 2 (some (.int (0))) (ij_SH, hi, hl, ij_HR) (fun n => rfl) (q0 c1)
  · skip
    refine ij_br 4 ((hi 26 4) ≤ a0) 22 12 [some (.ref 26), some (.int a0)] [] (ij_SH, hi, hl, ij_HR) (fun n => rfl) (fun c2 => ?_) (fun c2 => ?_)
    · skip
      exact ij_ret 2 (some (.int (0))) (ij_SH, hi, hl, ij_HR) (fun n => rfl) (q1 c1 c2)
    · skip
      refine ij_br 3 (30 ≤ a0) 22 18 [some (.ref 26), some (.int a0)] [] (ij_SH, hi, hl, ij_HR) (fun n => rfl) (fun c3 => ?_) (fun c3 => ?_)
      · skip
        exact ij_ret 2 (some (.int (0))) (ij_SH, hi, hl, ij_HR) (fun n => rfl) (q2 c1 c2 c3)
      · skip
        exact ij_ret 3 (some (.int (1))) (ij_SH, hi, hl, ij_HR) (fun n => rfl) (q3 c1 c2 c3)
set_option maxRecDepth 10000 in
-- ScaleForge$Studies.hasStep(I)Z
theorem s118_17 {xt : ij_X} {hi : Nat → Nat → Int32} {hl : Nat → Nat → Int64} {Q : Option Value → ij_H → Prop} (a0 : Int32) (q0 : (a0 < 0) → Q (some (.int (0))) (ij_SH, hi, hl, ij_HR)) (q1 : ¬ (a0 < 0) → ((hi 17 4) ≤ a0) → Q (some (.int (0))) (ij_SH, hi, hl, ij_HR)) (q2 : ¬ (a0 < 0) → ¬ ((hi 17 4) ≤ a0) → (30 ≤ a0) → Q (some (.int (0))) (ij_SH, hi, hl, ij_HR)) (q3 : ¬ (a0 < 0) → ¬ ((hi 17 4) ≤ a0) → ¬ (30 ≤ a0) → Q (some (.int (1))) (ij_SH, hi, hl, ij_HR)) : ij_R xt 118 0 [some (.ref 17), some (.int a0)] [] (ij_SH, hi, hl, ij_HR) Q := by
  refine ij_br 2 (a0 < 0) 22 4 [some (.ref 17), some (.int a0)] [] (ij_SH, hi, hl, ij_HR) (fun n => rfl) (fun c1 => ?_) (fun c1 => ?_)
  · skip
    exact ij_ret 2 (some (.int (0))) (ij_SH, hi, hl, ij_HR) (fun n => rfl) (q0 c1)
  · skip
    refine ij_br 4 ((hi 17 4) ≤ a0) 22 12 [some (.ref 17), some (.int a0)] [] (ij_SH, hi, hl, ij_HR) (fun n => rfl) (fun c2 => ?_) (fun c2 => ?_)
    · skip
      exact ij_ret 2 (some (.int (0))) (ij_SH, hi, hl, ij_HR) (fun n => rfl) (q1 c1 c2)
    · skip
      refine ij_br 3 (30 ≤ a0) 22 18 [some (.ref 17), some (.int a0)] [] (ij_SH, hi, hl, ij_HR) (fun n => rfl) (fun c3 => ?_) (fun c3 => ?_)
      · skip
        exact ij_ret 2 (some (.int (0))) (ij_SH, hi, hl, ij_HR) (fun n => rfl) (q2 c1 c2 c3)
      · skip
        exact ij_ret 3 (some (.int (1))) (ij_SH, hi, hl, ij_HR) (fun n => rfl) (q3 c1 c2 c3)
set_option maxRecDepth 10000 in
-- ScaleForge$StudyText.mostNumber(II)I
theorem s124 {xt : ij_X} {hi : Nat → Nat → Int32} {hl : Nat → Nat → Int64} {Q : Option Value → ij_H → Prop} (a0 : Int32) (a1 : Int32) (q0 : (a0 = 6) → Q (some (.int (99))) (ij_SH, hi, hl, ij_HR)) (q1 : ¬ (a0 = 6) → (a1 < 2) → Q (some (.int (59))) (ij_SH, hi, hl, ij_HR)) (q2 : ¬ (a0 = 6) → ¬ (a1 < 2) → Q (some (.int (60))) (ij_SH, hi, hl, ij_HR)) : ij_R xt 124 0 [some (.int a0), some (.int a1)] [] (ij_SH, hi, hl, ij_HR) Q := by
  refine ij_br 3 (a0 = 6) 6 9 [some (.int a0), some (.int a1)] [] (ij_SH, hi, hl, ij_HR) (fun n => rfl) (fun c1 => ?_) (fun c1 => ?_)
  · skip
    exact ij_ret 2 (some (.int (99))) (ij_SH, hi, hl, ij_HR) (fun n => rfl) (q0 c1)
  · skip
    refine ij_br 3 (a1 < 2) 19 14 [some (.int a0), some (.int a1)] [] (ij_SH, hi, hl, ij_HR) (fun n => rfl) (fun c2 => ?_) (fun c2 => ?_)
    · skip
      exact ij_ret 2 (some (.int (59))) (ij_SH, hi, hl, ij_HR) (fun n => rfl) (q1 c1 c2)
    · skip
      exact ij_ret 3 (some (.int (60))) (ij_SH, hi, hl, ij_HR) (fun n => rfl) (q2 c1 c2)
set_option maxRecDepth 10000 in
-- ScaleForge.fault(I)I
theorem s133_0 {xt : ij_X} {hi : Nat → Nat → Int32} {hl : Nat → Nat → Int64} {Q : Option Value → ij_H → Prop} (a0 : Int32) (q0 : (a0 = 0) → Q (some (.int ((hi 10 7)))) (ij_SH, hi, hl, ij_HR)) (q1 : ¬ (a0 = 0) → (a0 = 1) → Q (some (.int ((hi 10 8)))) (ij_SH, hi, hl, ij_HR)) (q2 : ¬ (a0 = 0) → ¬ (a0 = 1) → Q (some (.int ((-1)))) (ij_SH, hi, hl, ij_HR)) : ij_R xt 133 0 [some (.ref 0), some (.int a0)] [] (ij_SH, hi, hl, ij_HR) Q := by
  refine ij_br 2 (a0 = 0) 4 12 [some (.ref 0), some (.int a0)] [] (ij_SH, hi, hl, ij_HR) (fun n => rfl) (fun c1 => ?_) (fun c1 => ?_)
  · skip
    exact ij_ret 4 (some (.int ((hi 10 7)))) (ij_SH, hi, hl, ij_HR) (fun n => rfl) (q0 c1)
  · skip
    refine ij_br 3 (a0 = 1) 17 27 [some (.ref 0), some (.int a0)] [] (ij_SH, hi, hl, ij_HR) (fun n => rfl) (fun c2 => ?_) (fun c2 => ?_)
    · skip
      exact ij_ret 5 (some (.int ((hi 10 8)))) (ij_SH, hi, hl, ij_HR) (fun n => rfl) (q1 c1 c2)
    · skip
      exact ij_ret 2 (some (.int ((-1)))) (ij_SH, hi, hl, ij_HR) (fun n => rfl) (q2 c1 c2)
set_option maxRecDepth 10000 in
-- ScaleForgeModel.fault(I)I
theorem s134_77 {xt : ij_X} {hi : Nat → Nat → Int32} {hl : Nat → Nat → Int64} {Q : Option Value → ij_H → Prop} (a0 : Int32) (q0 : (a0 = 0) → Q (some (.int ((hi 77 15)))) (ij_SH, hi, hl, ij_HR)) (q1 : ¬ (a0 = 0) → (a0 = 1) → Q (some (.int ((hi 77 16)))) (ij_SH, hi, hl, ij_HR)) (q2 : ¬ (a0 = 0) → ¬ (a0 = 1) → Q (some (.int ((-1)))) (ij_SH, hi, hl, ij_HR)) : ij_R xt 134 0 [some (.ref 77), some (.int a0)] [] (ij_SH, hi, hl, ij_HR) Q := by
  refine ij_br 2 (a0 = 0) 4 11 [some (.ref 77), some (.int a0)] [] (ij_SH, hi, hl, ij_HR) (fun n => rfl) (fun c1 => ?_) (fun c1 => ?_)
  · skip
    exact ij_ret 4 (some (.int ((hi 77 15)))) (ij_SH, hi, hl, ij_HR) (fun n => rfl) (q0 c1)
  · skip
    refine ij_br 3 (a0 = 1) 16 23 [some (.ref 77), some (.int a0)] [] (ij_SH, hi, hl, ij_HR) (fun n => rfl) (fun c2 => ?_) (fun c2 => ?_)
    · skip
      exact ij_ret 4 (some (.int ((hi 77 16)))) (ij_SH, hi, hl, ij_HR) (fun n => rfl) (q1 c1 c2)
    · skip
      exact ij_ret 2 (some (.int ((-1)))) (ij_SH, hi, hl, ij_HR) (fun n => rfl) (q2 c1 c2)
set_option maxRecDepth 10000 in
-- ScaleForge$Scale.part(I)I
theorem s135_23 {xt : ij_X} {hi : Nat → Nat → Int32} {hl : Nat → Nat → Int64} {Q : Option Value → ij_H → Prop} (a0 : Int32) (q0 : (a0 < 0) → Q (some (.int (0))) (ij_SH, hi, hl, ij_HR)) (q1 : ¬ (a0 < 0) → (9 ≤ a0) → Q (some (.int (0))) (ij_SH, hi, hl, ij_HR)) (q2 : ¬ (a0 < 0) → ¬ (9 ≤ a0) → Q (some (.int ((hi 24 (a0).toNatClampNeg)))) (ij_SH, hi, hl, ij_HR)) : ij_R xt 135 0 [some (.ref 23), some (.int a0)] [] (ij_SH, hi, hl, ij_HR) Q := by
  refine ij_br 2 (a0 < 0) 22 4 [some (.ref 23), some (.int a0)] [] (ij_SH, hi, hl, ij_HR) (fun n => rfl) (fun c1 => ?_) (fun c1 => ?_)
  · skip
    exact ij_ret 2 (some (.int (0))) (ij_SH, hi, hl, ij_HR) (fun n => rfl) (q0 c1)
  · skip
    refine ij_br 5 (9 ≤ a0) 22 13 [some (.ref 23), some (.int a0)] [] (ij_SH, hi, hl, ij_HR) (fun n => rfl) (fun c2 => ?_) (fun c2 => ?_)
    · skip
      exact ij_ret 2 (some (.int (0))) (ij_SH, hi, hl, ij_HR) (fun n => rfl) (q1 c1 c2)
    · skip
      refine ij_go 3 18 [some (.ref 23), some (.int a0)] [.int a0, .ref 24] (ij_SH, hi, hl, ij_HR) (fun n => rfl) ?_
      refine ij_ial rfl rfl rfl (ij_bd c1 (Int32.not_le.mp c2) (by decide)) ?_
      exact ij_ret 2 (some (.int ((hi 24 (a0).toNatClampNeg)))) (ij_SH, hi, hl, ij_HR) (fun n => rfl) (q2 c1 c2)
set_option maxRecDepth 10000 in
-- ScaleForge$Scale.part(I)I
theorem s135_44 {xt : ij_X} {hi : Nat → Nat → Int32} {hl : Nat → Nat → Int64} {Q : Option Value → ij_H → Prop} (a0 : Int32) (q0 : (a0 < 0) → Q (some (.int (0))) (ij_SH, hi, hl, ij_HR)) (q1 : ¬ (a0 < 0) → (9 ≤ a0) → Q (some (.int (0))) (ij_SH, hi, hl, ij_HR)) (q2 : ¬ (a0 < 0) → ¬ (9 ≤ a0) → Q (some (.int ((hi 45 (a0).toNatClampNeg)))) (ij_SH, hi, hl, ij_HR)) : ij_R xt 135 0 [some (.ref 44), some (.int a0)] [] (ij_SH, hi, hl, ij_HR) Q := by
  refine ij_br 2 (a0 < 0) 22 4 [some (.ref 44), some (.int a0)] [] (ij_SH, hi, hl, ij_HR) (fun n => rfl) (fun c1 => ?_) (fun c1 => ?_)
  · skip
    exact ij_ret 2 (some (.int (0))) (ij_SH, hi, hl, ij_HR) (fun n => rfl) (q0 c1)
  · skip
    refine ij_br 5 (9 ≤ a0) 22 13 [some (.ref 44), some (.int a0)] [] (ij_SH, hi, hl, ij_HR) (fun n => rfl) (fun c2 => ?_) (fun c2 => ?_)
    · skip
      exact ij_ret 2 (some (.int (0))) (ij_SH, hi, hl, ij_HR) (fun n => rfl) (q1 c1 c2)
    · skip
      refine ij_go 3 18 [some (.ref 44), some (.int a0)] [.int a0, .ref 45] (ij_SH, hi, hl, ij_HR) (fun n => rfl) ?_
      refine ij_ial rfl rfl rfl (ij_bd c1 (Int32.not_le.mp c2) (by decide)) ?_
      exact ij_ret 2 (some (.int ((hi 45 (a0).toNatClampNeg)))) (ij_SH, hi, hl, ij_HR) (fun n => rfl) (q2 c1 c2)
set_option maxRecDepth 10000 in
-- ScaleForge$Scale.part(I)I
theorem s135_13 {xt : ij_X} {hi : Nat → Nat → Int32} {hl : Nat → Nat → Int64} {Q : Option Value → ij_H → Prop} (a0 : Int32) (q0 : (a0 < 0) → Q (some (.int (0))) (ij_SH, hi, hl, ij_HR)) (q1 : ¬ (a0 < 0) → (9 ≤ a0) → Q (some (.int (0))) (ij_SH, hi, hl, ij_HR)) (q2 : ¬ (a0 < 0) → ¬ (9 ≤ a0) → Q (some (.int ((hi 14 (a0).toNatClampNeg)))) (ij_SH, hi, hl, ij_HR)) : ij_R xt 135 0 [some (.ref 13), some (.int a0)] [] (ij_SH, hi, hl, ij_HR) Q := by
  refine ij_br 2 (a0 < 0) 22 4 [some (.ref 13), some (.int a0)] [] (ij_SH, hi, hl, ij_HR) (fun n => rfl) (fun c1 => ?_) (fun c1 => ?_)
  · skip
    exact ij_ret 2 (some (.int (0))) (ij_SH, hi, hl, ij_HR) (fun n => rfl) (q0 c1)
  · skip
    refine ij_br 5 (9 ≤ a0) 22 13 [some (.ref 13), some (.int a0)] [] (ij_SH, hi, hl, ij_HR) (fun n => rfl) (fun c2 => ?_) (fun c2 => ?_)
    · skip
      exact ij_ret 2 (some (.int (0))) (ij_SH, hi, hl, ij_HR) (fun n => rfl) (q1 c1 c2)
    · skip
      refine ij_go 3 18 [some (.ref 13), some (.int a0)] [.int a0, .ref 14] (ij_SH, hi, hl, ij_HR) (fun n => rfl) ?_
      refine ij_ial rfl rfl rfl (ij_bd c1 (Int32.not_le.mp c2) (by decide)) ?_
      exact ij_ret 2 (some (.int ((hi 14 (a0).toNatClampNeg)))) (ij_SH, hi, hl, ij_HR) (fun n => rfl) (q2 c1 c2)
set_option maxRecDepth 10000 in
-- ScaleForge$Ring.toneAt(I)I
theorem s138_31 {xt : ij_X} {hi : Nat → Nat → Int32} {hl : Nat → Nat → Int64} {Q : Option Value → ij_H → Prop} (a0 : Int32) (q0 : (a0 < 0) → Q (some (.int ((-1)))) (ij_SH, hi, hl, ij_HR)) (q1 : ¬ (a0 < 0) → ((hi 31 3) ≤ a0) → Q (some (.int ((-1)))) (ij_SH, hi, hl, ij_HR)) (q2 : ¬ (a0 < 0) → ¬ ((hi 31 3) ≤ a0) → (60 ≤ a0) → Q (some (.int ((-1)))) (ij_SH, hi, hl, ij_HR)) (q3 : ¬ (a0 < 0) → ¬ ((hi 31 3) ≤ a0) → ¬ (60 ≤ a0) → Q (some (.int ((hi 32 (a0).toNatClampNeg)))) (ij_SH, hi, hl, ij_HR)) : ij_R xt 138 0 [some (.ref 31), some (.int a0)] [] (ij_SH, hi, hl, ij_HR) Q := by
  refine ij_br 2 (a0 < 0) 30 4 [some (.ref 31), some (.int a0)] [] (ij_SH, hi, hl, ij_HR) (fun n => rfl) (fun c1 => ?_) (fun c1 => ?_)
  · skip
    exact ij_ret 2 (some (.int ((-1)))) (ij_SH, hi, hl, ij_HR) (fun n => rfl) (q0 c1)
  · skip
    refine ij_br 4 ((hi 31 3) ≤ a0) 30 12 [some (.ref 31), some (.int a0)] [] (ij_SH, hi, hl, ij_HR) (fun n => rfl) (fun c2 => ?_) (fun c2 => ?_)
    · skip
      exact ij_ret 2 (some (.int ((-1)))) (ij_SH, hi, hl, ij_HR) (fun n => rfl) (q1 c1 c2)
    · skip
      refine ij_br 5 (60 ≤ a0) 30 21 [some (.ref 31), some (.int a0)] [] (ij_SH, hi, hl, ij_HR) (fun n => rfl) (fun c3 => ?_) (fun c3 => ?_)
      · skip
        exact ij_ret 2 (some (.int ((-1)))) (ij_SH, hi, hl, ij_HR) (fun n => rfl) (q2 c1 c2 c3)
      · skip
        refine ij_go 3 26 [some (.ref 31), some (.int a0)] [.int a0, .ref 32] (ij_SH, hi, hl, ij_HR) (fun n => rfl) ?_
        refine ij_ial rfl rfl rfl (ij_bd c1 (Int32.not_le.mp c3) (by decide)) ?_
        exact ij_ret 2 (some (.int ((hi 32 (a0).toNatClampNeg)))) (ij_SH, hi, hl, ij_HR) (fun n => rfl) (q3 c1 c2 c3)
set_option maxRecDepth 10000 in
-- ScaleForge.isFarName(I)Z
theorem s146 {xt : ij_X} {hi : Nat → Nat → Int32} {hl : Nat → Nat → Int64} {Q : Option Value → ij_H → Prop} (a0 : Int32) (q0 : (a0 < (-60)) → Q (some (.int (1))) (ij_SH, hi, hl, ij_HR)) (q1 : ¬ (a0 < (-60)) → (a0 ≤ 60) → Q (some (.int (0))) (ij_SH, hi, hl, ij_HR)) (q2 : ¬ (a0 < (-60)) → ¬ (a0 ≤ 60) → Q (some (.int (1))) (ij_SH, hi, hl, ij_HR)) : ij_R xt 146 0 [some (.int a0)] [] (ij_SH, hi, hl, ij_HR) Q := by
  refine ij_br 3 (a0 < (-60)) 12 6 [some (.int a0)] [] (ij_SH, hi, hl, ij_HR) (fun n => rfl) (fun c1 => ?_) (fun c1 => ?_)
  · skip
    exact ij_ret 3 (some (.int (1))) (ij_SH, hi, hl, ij_HR) (fun n => rfl) (q0 c1)
  · skip
    refine ij_br 3 (a0 ≤ 60) 16 12 [some (.int a0)] [] (ij_SH, hi, hl, ij_HR) (fun n => rfl) (fun c2 => ?_) (fun c2 => ?_)
    · skip
      exact ij_ret 2 (some (.int (0))) (ij_SH, hi, hl, ij_HR) (fun n => rfl) (q1 c1 c2)
    · skip
      exact ij_ret 3 (some (.int (1))) (ij_SH, hi, hl, ij_HR) (fun n => rfl) (q2 c1 c2)
set_option maxRecDepth 10000 in
-- ScaleForgeModel.isFrom(JJJ)Z
theorem s149 {xt : ij_X} {hi : Nat → Nat → Int32} {hl : Nat → Nat → Int64} {Q : Option Value → ij_H → Prop} (a0 : Int64) (a1 : Int64) (a2 : Int64) (q0 : ((lg_cmp a0 a1) < 0) → Q (some (.int (0))) (ij_SH, hi, hl, ij_HR)) (q1 : ¬ ((lg_cmp a0 a1) < 0) → (0 < (lg_cmp a0 a2)) → Q (some (.int (0))) (ij_SH, hi, hl, ij_HR)) (q2 : ¬ ((lg_cmp a0 a1) < 0) → ¬ (0 < (lg_cmp a0 a2)) → Q (some (.int (1))) (ij_SH, hi, hl, ij_HR)) : ij_R xt 149 0 [some (.long a0), none, some (.long a1), none, some (.long a2), none] [] (ij_SH, hi, hl, ij_HR) Q := by
  refine ij_br 4 ((lg_cmp a0 a1) < 0) 17 6 [some (.long a0), none, some (.long a1), none, some (.long a2), none] [] (ij_SH, hi, hl, ij_HR) (fun n => rfl) (fun c1 => ?_) (fun c1 => ?_)
  · skip
    exact ij_ret 2 (some (.int (0))) (ij_SH, hi, hl, ij_HR) (fun n => rfl) (q0 c1)
  · skip
    refine ij_br 4 (0 < (lg_cmp a0 a2)) 17 13 [some (.long a0), none, some (.long a1), none, some (.long a2), none] [] (ij_SH, hi, hl, ij_HR) (fun n => rfl) (fun c2 => ?_) (fun c2 => ?_)
    · skip
      exact ij_ret 2 (some (.int (0))) (ij_SH, hi, hl, ij_HR) (fun n => rfl) (q1 c1 c2)
    · skip
      exact ij_ret 3 (some (.int (1))) (ij_SH, hi, hl, ij_HR) (fun n => rfl) (q2 c1 c2)
set_option maxRecDepth 10000 in
-- ScaleForge.isDegree(I)Z
theorem s151_0 {xt : ij_X} {hi : Nat → Nat → Int32} {hl : Nat → Nat → Int64} {Q : Option Value → ij_H → Prop} (a0 : Int32) (q0 : (a0 < 0) → Q (some (.int (0))) (ij_SH, hi, hl, ij_HR)) (q1 : ¬ (a0 < 0) → ((ij_pc (hl 23 4)) ≤ a0) → Q (some (.int (0))) (ij_SH, hi, hl, ij_HR)) (q2 : ¬ (a0 < 0) → ¬ ((ij_pc (hl 23 4)) ≤ a0) → Q (some (.int (1))) (ij_SH, hi, hl, ij_HR)) : ij_R xt 151 0 [some (.ref 0), some (.int a0)] [] (ij_SH, hi, hl, ij_HR) Q := by
  refine ij_br 2 (a0 < 0) 19 4 [some (.ref 0), some (.int a0)] [] (ij_SH, hi, hl, ij_HR) (fun n => rfl) (fun c1 => ?_) (fun c1 => ?_)
  · skip
    exact ij_ret 2 (some (.int (0))) (ij_SH, hi, hl, ij_HR) (fun n => rfl) (q0 c1)
  · skip
    refine ij_call 4 89 [some (.ref 23)] [.int a0] 12 [some (.ref 0), some (.int a0)] (ij_SH, hi, hl, ij_HR) (fun n => rfl) (s89_23  ?_)
    -- back
    refine ij_br 1 ((ij_pc (hl 23 4)) ≤ a0) 19 15 [some (.ref 0), some (.int a0)] [] (ij_SH, hi, hl, ij_HR) (fun n => rfl) (fun c2 => ?_) (fun c2 => ?_)
    · skip
      exact ij_ret 2 (some (.int (0))) (ij_SH, hi, hl, ij_HR) (fun n => rfl) (q1 c1 c2)
    · skip
      exact ij_ret 3 (some (.int (1))) (ij_SH, hi, hl, ij_HR) (fun n => rfl) (q2 c1 c2)
set_option maxRecDepth 10000 in
-- ScaleForge$Scale.isOfDegree(I)Z
theorem s155_23 {xt : ij_X} {hi : Nat → Nat → Int32} {hl : Nat → Nat → Int64} {Q : Option Value → ij_H → Prop} (a0 : Int32) (q0 : (a0 < 0) → Q (some (.int (0))) (ij_SH, hi, hl, ij_HR)) (q1 : ¬ (a0 < 0) → (64 ≤ a0) → Q (some (.int (0))) (ij_SH, hi, hl, ij_HR)) (q2 : ¬ (a0 < 0) → ¬ (64 ≤ a0) → ((lg_cmp ((((hl 23 4) : Int64).toUInt64 >>> ((a0 : Int32).toInt64.toUInt64 &&& Int64.toUInt64 63)).toInt64 &&& 1) 0) = 0) → Q (some (.int (0))) (ij_SH, hi, hl, ij_HR)) (q3 : ¬ (a0 < 0) → ¬ (64 ≤ a0) → ¬ ((lg_cmp ((((hl 23 4) : Int64).toUInt64 >>> ((a0 : Int32).toInt64.toUInt64 &&& Int64.toUInt64 63)).toInt64 &&& 1) 0) = 0) → Q (some (.int (1))) (ij_SH, hi, hl, ij_HR)) : ij_R xt 155 0 [some (.ref 23), some (.int a0)] [] (ij_SH, hi, hl, ij_HR) Q := by
  refine ij_call 4 74 [some (.long ((hl 23 4))), none, some (.int a0)] [] 8 [some (.ref 23), some (.int a0)] (ij_SH, hi, hl, ij_HR) (fun n => rfl) (s74 (hl 23 4) a0 (fun c1 => ?_) (fun c2 c3 => ?_) (fun c4 c5 c6 => ?_) (fun c7 c8 c9 => ?_))
  · skip
    exact ij_ret 1 (some (.int (0))) (ij_SH, hi, hl, ij_HR) (fun n => rfl) (q0 c1)
  · skip
    exact ij_ret 1 (some (.int (0))) (ij_SH, hi, hl, ij_HR) (fun n => rfl) (q1 c2 c3)
  · skip
    exact ij_ret 1 (some (.int (0))) (ij_SH, hi, hl, ij_HR) (fun n => rfl) (q2 c4 c5 c6)
  · skip
    exact ij_ret 1 (some (.int (1))) (ij_SH, hi, hl, ij_HR) (fun n => rfl) (q3 c7 c8 c9)
set_option maxRecDepth 10000 in
-- ScaleForge$Scale.isOfDegree(I)Z
theorem s155_44 {xt : ij_X} {hi : Nat → Nat → Int32} {hl : Nat → Nat → Int64} {Q : Option Value → ij_H → Prop} (a0 : Int32) (q0 : (a0 < 0) → Q (some (.int (0))) (ij_SH, hi, hl, ij_HR)) (q1 : ¬ (a0 < 0) → (64 ≤ a0) → Q (some (.int (0))) (ij_SH, hi, hl, ij_HR)) (q2 : ¬ (a0 < 0) → ¬ (64 ≤ a0) → ((lg_cmp ((((hl 44 4) : Int64).toUInt64 >>> ((a0 : Int32).toInt64.toUInt64 &&& Int64.toUInt64 63)).toInt64 &&& 1) 0) = 0) → Q (some (.int (0))) (ij_SH, hi, hl, ij_HR)) (q3 : ¬ (a0 < 0) → ¬ (64 ≤ a0) → ¬ ((lg_cmp ((((hl 44 4) : Int64).toUInt64 >>> ((a0 : Int32).toInt64.toUInt64 &&& Int64.toUInt64 63)).toInt64 &&& 1) 0) = 0) → Q (some (.int (1))) (ij_SH, hi, hl, ij_HR)) : ij_R xt 155 0 [some (.ref 44), some (.int a0)] [] (ij_SH, hi, hl, ij_HR) Q := by
  refine ij_call 4 74 [some (.long ((hl 44 4))), none, some (.int a0)] [] 8 [some (.ref 44), some (.int a0)] (ij_SH, hi, hl, ij_HR) (fun n => rfl) (s74 (hl 44 4) a0 (fun c1 => ?_) (fun c2 c3 => ?_) (fun c4 c5 c6 => ?_) (fun c7 c8 c9 => ?_))
  · skip
    exact ij_ret 1 (some (.int (0))) (ij_SH, hi, hl, ij_HR) (fun n => rfl) (q0 c1)
  · skip
    exact ij_ret 1 (some (.int (0))) (ij_SH, hi, hl, ij_HR) (fun n => rfl) (q1 c2 c3)
  · skip
    exact ij_ret 1 (some (.int (0))) (ij_SH, hi, hl, ij_HR) (fun n => rfl) (q2 c4 c5 c6)
  · skip
    exact ij_ret 1 (some (.int (1))) (ij_SH, hi, hl, ij_HR) (fun n => rfl) (q3 c7 c8 c9)
set_option maxRecDepth 10000 in
-- ScaleForge$Scale.isOfDegree(I)Z
theorem s155_13 {xt : ij_X} {hi : Nat → Nat → Int32} {hl : Nat → Nat → Int64} {Q : Option Value → ij_H → Prop} (a0 : Int32) (q0 : (a0 < 0) → Q (some (.int (0))) (ij_SH, hi, hl, ij_HR)) (q1 : ¬ (a0 < 0) → (64 ≤ a0) → Q (some (.int (0))) (ij_SH, hi, hl, ij_HR)) (q2 : ¬ (a0 < 0) → ¬ (64 ≤ a0) → ((lg_cmp ((((hl 13 4) : Int64).toUInt64 >>> ((a0 : Int32).toInt64.toUInt64 &&& Int64.toUInt64 63)).toInt64 &&& 1) 0) = 0) → Q (some (.int (0))) (ij_SH, hi, hl, ij_HR)) (q3 : ¬ (a0 < 0) → ¬ (64 ≤ a0) → ¬ ((lg_cmp ((((hl 13 4) : Int64).toUInt64 >>> ((a0 : Int32).toInt64.toUInt64 &&& Int64.toUInt64 63)).toInt64 &&& 1) 0) = 0) → Q (some (.int (1))) (ij_SH, hi, hl, ij_HR)) : ij_R xt 155 0 [some (.ref 13), some (.int a0)] [] (ij_SH, hi, hl, ij_HR) Q := by
  refine ij_call 4 74 [some (.long ((hl 13 4))), none, some (.int a0)] [] 8 [some (.ref 13), some (.int a0)] (ij_SH, hi, hl, ij_HR) (fun n => rfl) (s74 (hl 13 4) a0 (fun c1 => ?_) (fun c2 c3 => ?_) (fun c4 c5 c6 => ?_) (fun c7 c8 c9 => ?_))
  · skip
    exact ij_ret 1 (some (.int (0))) (ij_SH, hi, hl, ij_HR) (fun n => rfl) (q0 c1)
  · skip
    exact ij_ret 1 (some (.int (0))) (ij_SH, hi, hl, ij_HR) (fun n => rfl) (q1 c2 c3)
  · skip
    exact ij_ret 1 (some (.int (0))) (ij_SH, hi, hl, ij_HR) (fun n => rfl) (q2 c4 c5 c6)
  · skip
    exact ij_ret 1 (some (.int (1))) (ij_SH, hi, hl, ij_HR) (fun n => rfl) (q3 c7 c8 c9)
set_option maxRecDepth 10000 in
-- ScaleForge.degreeOf(I)I
theorem s156_0 {xt : ij_X} {hi : Nat → Nat → Int32} {hl : Nat → Nat → Int64} {Q : Option Value → ij_H → Prop} (a0 : Int32) (q0 : (a0 < 0) → Q (some (.int ((ij_pc ((hl 23 4) &&& (0 - 1)))))) (ij_SH, hi, hl, ij_HR)) (q1 : ¬ (a0 < 0) → (64 ≤ a0) → Q (some (.int ((ij_pc ((hl 23 4) &&& (0 - 1)))))) (ij_SH, hi, hl, ij_HR)) (q2 : ¬ (a0 < 0) → ¬ (64 ≤ a0) → Q (some (.int ((ij_pc ((hl 23 4) &&& ((1 <<< ((a0 : Int32).toInt64 &&& 63)) - 1)))))) (ij_SH, hi, hl, ij_HR)) : ij_R xt 156 0 [some (.ref 0), some (.int a0)] [] (ij_SH, hi, hl, ij_HR) Q := by
  refine ij_call 5 6 [some (.int a0)] [.long ((hl 23 4))] 11 [some (.ref 0), some (.int a0)] (ij_SH, hi, hl, ij_HR) (fun n => rfl) (s6 a0 (fun c1 => ?_) (fun c2 c3 => ?_) (fun c4 c5 => ?_))
  · skip
    refine ij_call 4 88 [some (.long (((hl 23 4) &&& (0 - 1)))), none] [] 17 [some (.ref 0), some (.int a0)] (ij_SH, hi, hl, ij_HR) (fun n => rfl) (s_bitCount ((hl 23 4) &&& (0 - 1)) ?_)
    -- back
    exact ij_ret 1 (some (.int ((ij_pc ((hl 23 4) &&& (0 - 1)))))) (ij_SH, hi, hl, ij_HR) (fun n => rfl) (q0 c1)
  · skip
    refine ij_call 4 88 [some (.long (((hl 23 4) &&& (0 - 1)))), none] [] 17 [some (.ref 0), some (.int a0)] (ij_SH, hi, hl, ij_HR) (fun n => rfl) (s_bitCount ((hl 23 4) &&& (0 - 1)) ?_)
    -- back
    exact ij_ret 1 (some (.int ((ij_pc ((hl 23 4) &&& (0 - 1)))))) (ij_SH, hi, hl, ij_HR) (fun n => rfl) (q1 c2 c3)
  · skip
    refine ij_call 4 88 [some (.long (((hl 23 4) &&& ((1 <<< ((a0 : Int32).toInt64 &&& 63)) - 1)))), none] [] 17 [some (.ref 0), some (.int a0)] (ij_SH, hi, hl, ij_HR) (fun n => rfl) (s_bitCount ((hl 23 4) &&& ((1 <<< ((a0 : Int32).toInt64 &&& 63)) - 1)) ?_)
    -- back
    exact ij_ret 1 (some (.int ((ij_pc ((hl 23 4) &&& ((1 <<< ((a0 : Int32).toInt64 &&& 63)) - 1)))))) (ij_SH, hi, hl, ij_HR) (fun n => rfl) (q2 c4 c5)
set_option maxRecDepth 10000 in
-- ScaleForge.degree(I)I
theorem s157_0 {xt : ij_X} {hi : Nat → Nat → Int32} {hl : Nat → Nat → Int64} {Q : Option Value → ij_H → Prop} (a0 : Int32) (q0 : (a0 < 0) → Q (some (.int ((-1)))) (ij_SH, (ij_ui hi 0 0 1), hl, ij_HR)) (q1 : ¬ (a0 < 0) → ((hi 24 1) ≤ a0) → Q (some (.int ((-1)))) (ij_SH, (ij_ui hi 0 0 1), hl, ij_HR)) (q2 : ¬ (a0 < 0) → ¬ ((hi 24 1) ≤ a0) → (a0 < 0) → Q (some (.int ((-1)))) (ij_SH, (ij_ui hi 0 0 6), hl, ij_HR)) (q3 : ¬ (a0 < 0) → ¬ ((hi 24 1) ≤ a0) → ¬ (a0 < 0) → (64 ≤ a0) → Q (some (.int ((-1)))) (ij_SH, (ij_ui hi 0 0 6), hl, ij_HR)) (q4 : ¬ (a0 < 0) → ¬ ((hi 24 1) ≤ a0) → ¬ (a0 < 0) → ¬ (64 ≤ a0) → ((lg_cmp ((((hl 23 4) : Int64).toUInt64 >>> ((a0 : Int32).toInt64.toUInt64 &&& Int64.toUInt64 63)).toInt64 &&& 1) 0) = 0) → Q (some (.int ((-1)))) (ij_SH, (ij_ui hi 0 0 6), hl, ij_HR)) (q5 : ¬ (a0 < 0) → ¬ ((hi 24 1) ≤ a0) → ¬ (a0 < 0) → ¬ (64 ≤ a0) → ¬ ((lg_cmp ((((hl 23 4) : Int64).toUInt64 >>> ((a0 : Int32).toInt64.toUInt64 &&& Int64.toUInt64 63)).toInt64 &&& 1) 0) = 0) → (a0 < 0) → Q (some (.int ((ij_pc ((hl 23 4) &&& (0 - 1)))))) (ij_SH, (ij_ui hi 0 0 0), hl, ij_HR)) (q6 : ¬ (a0 < 0) → ¬ ((hi 24 1) ≤ a0) → ¬ (a0 < 0) → ¬ (64 ≤ a0) → ¬ ((lg_cmp ((((hl 23 4) : Int64).toUInt64 >>> ((a0 : Int32).toInt64.toUInt64 &&& Int64.toUInt64 63)).toInt64 &&& 1) 0) = 0) → ¬ (a0 < 0) → (64 ≤ a0) → Q (some (.int ((ij_pc ((hl 23 4) &&& (0 - 1)))))) (ij_SH, (ij_ui hi 0 0 0), hl, ij_HR)) (q7 : ¬ (a0 < 0) → ¬ ((hi 24 1) ≤ a0) → ¬ (a0 < 0) → ¬ (64 ≤ a0) → ¬ ((lg_cmp ((((hl 23 4) : Int64).toUInt64 >>> ((a0 : Int32).toInt64.toUInt64 &&& Int64.toUInt64 63)).toInt64 &&& 1) 0) = 0) → ¬ (a0 < 0) → ¬ (64 ≤ a0) → Q (some (.int ((ij_pc ((hl 23 4) &&& ((1 <<< ((a0 : Int32).toInt64 &&& 63)) - 1)))))) (ij_SH, (ij_ui hi 0 0 0), hl, ij_HR)) : ij_R xt 157 0 [some (.ref 0), some (.int a0)] [] (ij_SH, hi, hl, ij_HR) Q := by
  refine ij_call 4 77 [some (.ref 23), some (.int a0)] [] 8 [some (.ref 0), some (.int a0)] (ij_SH, hi, hl, ij_HR) (fun n => rfl) (s77_23 a0 (fun c1 => ?_) (fun c2 c3 => ?_) (fun c4 c5 => ?_))
  · skip
    refine ij_call 4 44 [some (.ref 0), some (.int (1))] [] 16 [some (.ref 0), some (.int a0)] (ij_SH, hi, hl, ij_HR) (fun n => rfl) (s44_0 1 ?_)
    -- back
    exact ij_ret 1 (some (.int ((-1)))) (ij_SH, (ij_ui hi 0 0 1), hl, ij_HR) (fun n => rfl) (q0 c1)
  · skip
    refine ij_call 4 44 [some (.ref 0), some (.int (1))] [] 16 [some (.ref 0), some (.int a0)] (ij_SH, hi, hl, ij_HR) (fun n => rfl) (s44_0 1 ?_)
    -- back
    exact ij_ret 1 (some (.int ((-1)))) (ij_SH, (ij_ui hi 0 0 1), hl, ij_HR) (fun n => rfl) (q1 c2 c3)
  · skip
    refine ij_call 5 155 [some (.ref 23), some (.int a0)] [] 25 [some (.ref 0), some (.int a0)] (ij_SH, hi, hl, ij_HR) (fun n => rfl) (s155_23 a0 (fun c6 => ?_) (fun c7 c8 => ?_) (fun c9 c10 c11 => ?_) (fun c12 c13 c14 => ?_))
    · skip
      refine ij_call 4 44 [some (.ref 0), some (.int (6))] [] 46 [some (.ref 0), some (.int a0)] (ij_SH, hi, hl, ij_HR) (fun n => rfl) (s44_0 6 ?_)
      -- back
      exact ij_ret 1 (some (.int ((-1)))) (ij_SH, (ij_ui hi 0 0 6), hl, ij_HR) (fun n => rfl) (q2 c4 c5 c6)
    · skip
      refine ij_call 4 44 [some (.ref 0), some (.int (6))] [] 46 [some (.ref 0), some (.int a0)] (ij_SH, hi, hl, ij_HR) (fun n => rfl) (s44_0 6 ?_)
      -- back
      exact ij_ret 1 (some (.int ((-1)))) (ij_SH, (ij_ui hi 0 0 6), hl, ij_HR) (fun n => rfl) (q3 c4 c5 c7 c8)
    · skip
      refine ij_call 4 44 [some (.ref 0), some (.int (6))] [] 46 [some (.ref 0), some (.int a0)] (ij_SH, hi, hl, ij_HR) (fun n => rfl) (s44_0 6 ?_)
      -- back
      exact ij_ret 1 (some (.int ((-1)))) (ij_SH, (ij_ui hi 0 0 6), hl, ij_HR) (fun n => rfl) (q4 c4 c5 c9 c10 c11)
    · skip
      refine ij_call 5 156 [some (.ref 0), some (.int a0)] [.ref 0] 34 [some (.ref 0), some (.int a0)] (ij_SH, hi, hl, ij_HR) (fun n => rfl) (s156_0 a0 (fun c15 => ?_) (fun c16 c17 => ?_) (fun c18 c19 => ?_))
      · skip
        refine ij_call 1 90 [some (.ref 0), some (.int ((ij_pc ((hl 23 4) &&& (0 - 1)))))] [] 37 [some (.ref 0), some (.int a0)] (ij_SH, hi, hl, ij_HR) (fun n => rfl) (s90_0 (ij_pc ((hl 23 4) &&& (0 - 1))) ?_)
        -- back
        exact ij_ret 2 (some (.int ((ij_pc ((hl 23 4) &&& (0 - 1)))))) (ij_SH, (ij_ui hi 0 0 0), hl, ij_HR) (fun n => rfl) (q5 c4 c5 c12 c13 c14 c15)
      · skip
        refine ij_call 1 90 [some (.ref 0), some (.int ((ij_pc ((hl 23 4) &&& (0 - 1)))))] [] 37 [some (.ref 0), some (.int a0)] (ij_SH, hi, hl, ij_HR) (fun n => rfl) (s90_0 (ij_pc ((hl 23 4) &&& (0 - 1))) ?_)
        -- back
        exact ij_ret 2 (some (.int ((ij_pc ((hl 23 4) &&& (0 - 1)))))) (ij_SH, (ij_ui hi 0 0 0), hl, ij_HR) (fun n => rfl) (q6 c4 c5 c12 c13 c14 c16 c17)
      · skip
        refine ij_call 1 90 [some (.ref 0), some (.int ((ij_pc ((hl 23 4) &&& ((1 <<< ((a0 : Int32).toInt64 &&& 63)) - 1)))))] [] 37 [some (.ref 0), some (.int a0)] (ij_SH, hi, hl, ij_HR) (fun n => rfl) (s90_0 (ij_pc ((hl 23 4) &&& ((1 <<< ((a0 : Int32).toInt64 &&& 63)) - 1))) ?_)
        -- back
        exact ij_ret 2 (some (.int ((ij_pc ((hl 23 4) &&& ((1 <<< ((a0 : Int32).toInt64 &&& 63)) - 1)))))) (ij_SH, (ij_ui hi 0 0 0), hl, ij_HR) (fun n => rfl) (q7 c4 c5 c12 c13 c14 c18 c19)
set_option maxRecDepth 10000 in
-- ScaleForgeModel.isTone(I)Z
theorem s158_77 {xt : ij_X} {hi : Nat → Nat → Int32} {hl : Nat → Nat → Int64} {Q : Option Value → ij_H → Prop} (a0 : Int32) (q0 : (a0 < 0) → Q (some (.int (0))) (ij_SH, hi, hl, ij_HR)) (q1 : ¬ (a0 < 0) → ((hi 78 1) ≤ a0) → Q (some (.int (0))) (ij_SH, hi, hl, ij_HR)) (q2 : ¬ (a0 < 0) → ¬ ((hi 78 1) ≤ a0) → Q (some (.int (1))) (ij_SH, hi, hl, ij_HR)) : ij_R xt 158 0 [some (.ref 77), some (.int a0)] [] (ij_SH, hi, hl, ij_HR) Q := by
  refine ij_br 2 (a0 < 0) 18 4 [some (.ref 77), some (.int a0)] [] (ij_SH, hi, hl, ij_HR) (fun n => rfl) (fun c1 => ?_) (fun c1 => ?_)
  · skip
    exact ij_ret 2 (some (.int (0))) (ij_SH, hi, hl, ij_HR) (fun n => rfl) (q0 c1)
  · skip
    refine ij_br 6 ((hi 78 1) ≤ a0) 18 14 [some (.ref 77), some (.int a0)] [] (ij_SH, hi, hl, ij_HR) (fun n => rfl) (fun c2 => ?_) (fun c2 => ?_)
    · skip
      exact ij_ret 2 (some (.int (0))) (ij_SH, hi, hl, ij_HR) (fun n => rfl) (q1 c1 c2)
    · skip
      exact ij_ret 3 (some (.int (1))) (ij_SH, hi, hl, ij_HR) (fun n => rfl) (q2 c1 c2)
set_option maxRecDepth 10000 in
-- ScaleForgeModel.orNone(I)I
theorem s159_77 {xt : ij_X} {hi : Nat → Nat → Int32} {hl : Nat → Nat → Int64} {Q : Option Value → ij_H → Prop} (a0 : Int32) (q0 : (a0 = (-1)) → Q (some (.int ((-1)))) (ij_SH, (ij_ui hi 77 1 6), hl, ij_HR)) (q1 : ¬ (a0 = (-1)) → Q (some (.int a0)) (ij_SH, (ij_ui hi 77 1 0), hl, ij_HR)) : ij_R xt 159 0 [some (.ref 77), some (.int a0)] [] (ij_SH, hi, hl, ij_HR) Q := by
  refine ij_br 3 (a0 = (-1)) 5 12 [some (.ref 77), some (.int a0)] [] (ij_SH, hi, hl, ij_HR) (fun n => rfl) (fun c1 => ?_) (fun c1 => ?_)
  · skip
    refine ij_call 3 98 [some (.ref 77), some (.int (6))] [] 11 [some (.ref 77), some (.int a0)] (ij_SH, hi, hl, ij_HR) (fun n => rfl) (s98_77 6 ?_)
    -- back
    exact ij_ret 1 (some (.int ((-1)))) (ij_SH, (ij_ui hi 77 1 6), hl, ij_HR) (fun n => rfl) (q0 c1)
  · skip
    refine ij_call 3 115 [some (.ref 77), some (.int a0)] [] 17 [some (.ref 77), some (.int a0)] (ij_SH, hi, hl, ij_HR) (fun n => rfl) (s115_77 a0 ?_)
    -- back
    exact ij_ret 1 (some (.int a0)) (ij_SH, (ij_ui hi 77 1 0), hl, ij_HR) (fun n => rfl) (q1 c1)
set_option maxRecDepth 10000 in
-- ScaleForge.giveFound(I)I
theorem s167_0 {xt : ij_X} {hi : Nat → Nat → Int32} {hl : Nat → Nat → Int64} {Q : Option Value → ij_H → Prop} (a0 : Int32) (q0 : (a0 = (-1)) → Q (some (.int ((-1)))) (ij_SH, (ij_ui hi 0 0 6), hl, ij_HR)) (q1 : ¬ (a0 = (-1)) → Q (some (.int a0)) (ij_SH, (ij_ui hi 0 0 0), hl, ij_HR)) : ij_R xt 167 0 [some (.ref 0), some (.int a0)] [] (ij_SH, hi, hl, ij_HR) Q := by
  refine ij_br 3 (a0 = (-1)) 5 14 [some (.ref 0), some (.int a0)] [] (ij_SH, hi, hl, ij_HR) (fun n => rfl) (fun c1 => ?_) (fun c1 => ?_)
  · skip
    refine ij_call 3 44 [some (.ref 0), some (.int (6))] [] 11 [some (.ref 0), some (.int a0)] (ij_SH, hi, hl, ij_HR) (fun n => rfl) (s44_0 6 ?_)
    -- back
    exact ij_ret 2 (some (.int ((-1)))) (ij_SH, (ij_ui hi 0 0 6), hl, ij_HR) (fun n => rfl) (q0 c1)
  · skip
    refine ij_call 3 90 [some (.ref 0), some (.int a0)] [] 19 [some (.ref 0), some (.int a0)] (ij_SH, hi, hl, ij_HR) (fun n => rfl) (s90_0 a0 ?_)
    -- back
    exact ij_ret 1 (some (.int a0)) (ij_SH, (ij_ui hi 0 0 0), hl, ij_HR) (fun n => rfl) (q1 c1)
set_option maxRecDepth 10000 in
-- ScaleForge$Scale.release(I)Z
theorem s182_23 {xt : ij_X} {hi : Nat → Nat → Int32} {hl : Nat → Nat → Int64} {Q : Option Value → ij_H → Prop} (a0 : Int32) (q0 : (a0 < 0) → Q (some (.int (0))) (ij_SH, hi, hl, ij_HR)) (q1 : ¬ (a0 < 0) → (64 ≤ a0) → Q (some (.int (0))) (ij_SH, hi, hl, ij_HR)) (q2 : ¬ (a0 < 0) → ¬ (64 ≤ a0) → ((lg_cmp ((((hl 23 3) : Int64).toUInt64 >>> ((a0 : Int32).toInt64.toUInt64 &&& Int64.toUInt64 63)).toInt64 &&& 1) 0) = 0) → Q (some (.int (0))) (ij_SH, hi, hl, ij_HR)) (q3 : ¬ (a0 < 0) → ¬ (64 ≤ a0) → ¬ ((lg_cmp ((((hl 23 3) : Int64).toUInt64 >>> ((a0 : Int32).toInt64.toUInt64 &&& Int64.toUInt64 63)).toInt64 &&& 1) 0) = 0) → (a0 < 0) → Q (some (.int (1))) (ij_SH, hi, (ij_ul hl 23 3 ((hl 23 3) &&& (0 ^^^ (Int64.ofNat 18446744073709551615)))), ij_HR)) (q4 : ¬ (a0 < 0) → ¬ (64 ≤ a0) → ¬ ((lg_cmp ((((hl 23 3) : Int64).toUInt64 >>> ((a0 : Int32).toInt64.toUInt64 &&& Int64.toUInt64 63)).toInt64 &&& 1) 0) = 0) → ¬ (a0 < 0) → (64 ≤ a0) → Q (some (.int (1))) (ij_SH, hi, (ij_ul hl 23 3 ((hl 23 3) &&& (0 ^^^ (Int64.ofNat 18446744073709551615)))), ij_HR)) (q5 : ¬ (a0 < 0) → ¬ (64 ≤ a0) → ¬ ((lg_cmp ((((hl 23 3) : Int64).toUInt64 >>> ((a0 : Int32).toInt64.toUInt64 &&& Int64.toUInt64 63)).toInt64 &&& 1) 0) = 0) → ¬ (a0 < 0) → ¬ (64 ≤ a0) → Q (some (.int (1))) (ij_SH, hi, (ij_ul hl 23 3 ((hl 23 3) &&& ((1 <<< ((a0 : Int32).toInt64 &&& 63)) ^^^ (Int64.ofNat 18446744073709551615)))), ij_HR)) : ij_R xt 182 0 [some (.ref 23), some (.int a0)] [] (ij_SH, hi, hl, ij_HR) Q := by
  refine ij_call 4 74 [some (.long ((hl 23 3))), none, some (.int a0)] [] 8 [some (.ref 23), some (.int a0)] (ij_SH, hi, hl, ij_HR) (fun n => rfl) (s74 (hl 23 3) a0 (fun c1 => ?_) (fun c2 c3 => ?_) (fun c4 c5 c6 => ?_) (fun c7 c8 c9 => ?_))
  · skip
    exact ij_ret 3 (some (.int (0))) (ij_SH, hi, hl, ij_HR) (fun n => rfl) (q0 c1)
  · skip
    exact ij_ret 3 (some (.int (0))) (ij_SH, hi, hl, ij_HR) (fun n => rfl) (q1 c2 c3)
  · skip
    exact ij_ret 3 (some (.int (0))) (ij_SH, hi, hl, ij_HR) (fun n => rfl) (q2 c4 c5 c6)
  · skip
    refine ij_call 6 6 [some (.int a0)] [.long ((hl 23 3)), .ref 23] 22 [some (.ref 23), some (.int a0)] (ij_SH, hi, hl, ij_HR) (fun n => rfl) (s6 a0 (fun c10 => ?_) (fun c11 c12 => ?_) (fun c13 c14 => ?_))
    · skip
      exact ij_ret 6 (some (.int (1))) (ij_SH, hi, (ij_ul hl 23 3 ((hl 23 3) &&& (0 ^^^ (Int64.ofNat 18446744073709551615)))), ij_HR) (fun n => rfl) (q3 c7 c8 c9 c10)
    · skip
      exact ij_ret 6 (some (.int (1))) (ij_SH, hi, (ij_ul hl 23 3 ((hl 23 3) &&& (0 ^^^ (Int64.ofNat 18446744073709551615)))), ij_HR) (fun n => rfl) (q4 c7 c8 c9 c11 c12)
    · skip
      exact ij_ret 6 (some (.int (1))) (ij_SH, hi, (ij_ul hl 23 3 ((hl 23 3) &&& ((1 <<< ((a0 : Int32).toInt64 &&& 63)) ^^^ (Int64.ofNat 18446744073709551615)))), ij_HR) (fun n => rfl) (q5 c7 c8 c9 c13 c14)
set_option maxRecDepth 10000 in
-- ScaleForge$Scale.release(I)Z
theorem s182_44 {xt : ij_X} {hi : Nat → Nat → Int32} {hl : Nat → Nat → Int64} {Q : Option Value → ij_H → Prop} (a0 : Int32) (q0 : (a0 < 0) → Q (some (.int (0))) (ij_SH, hi, hl, ij_HR)) (q1 : ¬ (a0 < 0) → (64 ≤ a0) → Q (some (.int (0))) (ij_SH, hi, hl, ij_HR)) (q2 : ¬ (a0 < 0) → ¬ (64 ≤ a0) → ((lg_cmp ((((hl 44 3) : Int64).toUInt64 >>> ((a0 : Int32).toInt64.toUInt64 &&& Int64.toUInt64 63)).toInt64 &&& 1) 0) = 0) → Q (some (.int (0))) (ij_SH, hi, hl, ij_HR)) (q3 : ¬ (a0 < 0) → ¬ (64 ≤ a0) → ¬ ((lg_cmp ((((hl 44 3) : Int64).toUInt64 >>> ((a0 : Int32).toInt64.toUInt64 &&& Int64.toUInt64 63)).toInt64 &&& 1) 0) = 0) → (a0 < 0) → Q (some (.int (1))) (ij_SH, hi, (ij_ul hl 44 3 ((hl 44 3) &&& (0 ^^^ (Int64.ofNat 18446744073709551615)))), ij_HR)) (q4 : ¬ (a0 < 0) → ¬ (64 ≤ a0) → ¬ ((lg_cmp ((((hl 44 3) : Int64).toUInt64 >>> ((a0 : Int32).toInt64.toUInt64 &&& Int64.toUInt64 63)).toInt64 &&& 1) 0) = 0) → ¬ (a0 < 0) → (64 ≤ a0) → Q (some (.int (1))) (ij_SH, hi, (ij_ul hl 44 3 ((hl 44 3) &&& (0 ^^^ (Int64.ofNat 18446744073709551615)))), ij_HR)) (q5 : ¬ (a0 < 0) → ¬ (64 ≤ a0) → ¬ ((lg_cmp ((((hl 44 3) : Int64).toUInt64 >>> ((a0 : Int32).toInt64.toUInt64 &&& Int64.toUInt64 63)).toInt64 &&& 1) 0) = 0) → ¬ (a0 < 0) → ¬ (64 ≤ a0) → Q (some (.int (1))) (ij_SH, hi, (ij_ul hl 44 3 ((hl 44 3) &&& ((1 <<< ((a0 : Int32).toInt64 &&& 63)) ^^^ (Int64.ofNat 18446744073709551615)))), ij_HR)) : ij_R xt 182 0 [some (.ref 44), some (.int a0)] [] (ij_SH, hi, hl, ij_HR) Q := by
  refine ij_call 4 74 [some (.long ((hl 44 3))), none, some (.int a0)] [] 8 [some (.ref 44), some (.int a0)] (ij_SH, hi, hl, ij_HR) (fun n => rfl) (s74 (hl 44 3) a0 (fun c1 => ?_) (fun c2 c3 => ?_) (fun c4 c5 c6 => ?_) (fun c7 c8 c9 => ?_))
  · skip
    exact ij_ret 3 (some (.int (0))) (ij_SH, hi, hl, ij_HR) (fun n => rfl) (q0 c1)
  · skip
    exact ij_ret 3 (some (.int (0))) (ij_SH, hi, hl, ij_HR) (fun n => rfl) (q1 c2 c3)
  · skip
    exact ij_ret 3 (some (.int (0))) (ij_SH, hi, hl, ij_HR) (fun n => rfl) (q2 c4 c5 c6)
  · skip
    refine ij_call 6 6 [some (.int a0)] [.long ((hl 44 3)), .ref 44] 22 [some (.ref 44), some (.int a0)] (ij_SH, hi, hl, ij_HR) (fun n => rfl) (s6 a0 (fun c10 => ?_) (fun c11 c12 => ?_) (fun c13 c14 => ?_))
    · skip
      exact ij_ret 6 (some (.int (1))) (ij_SH, hi, (ij_ul hl 44 3 ((hl 44 3) &&& (0 ^^^ (Int64.ofNat 18446744073709551615)))), ij_HR) (fun n => rfl) (q3 c7 c8 c9 c10)
    · skip
      exact ij_ret 6 (some (.int (1))) (ij_SH, hi, (ij_ul hl 44 3 ((hl 44 3) &&& (0 ^^^ (Int64.ofNat 18446744073709551615)))), ij_HR) (fun n => rfl) (q4 c7 c8 c9 c11 c12)
    · skip
      exact ij_ret 6 (some (.int (1))) (ij_SH, hi, (ij_ul hl 44 3 ((hl 44 3) &&& ((1 <<< ((a0 : Int32).toInt64 &&& 63)) ^^^ (Int64.ofNat 18446744073709551615)))), ij_HR) (fun n => rfl) (q5 c7 c8 c9 c13 c14)
set_option maxRecDepth 10000 in
-- ScaleForge$Scale.release(I)Z
theorem s182_13 {xt : ij_X} {hi : Nat → Nat → Int32} {hl : Nat → Nat → Int64} {Q : Option Value → ij_H → Prop} (a0 : Int32) (q0 : (a0 < 0) → Q (some (.int (0))) (ij_SH, hi, hl, ij_HR)) (q1 : ¬ (a0 < 0) → (64 ≤ a0) → Q (some (.int (0))) (ij_SH, hi, hl, ij_HR)) (q2 : ¬ (a0 < 0) → ¬ (64 ≤ a0) → ((lg_cmp ((((hl 13 3) : Int64).toUInt64 >>> ((a0 : Int32).toInt64.toUInt64 &&& Int64.toUInt64 63)).toInt64 &&& 1) 0) = 0) → Q (some (.int (0))) (ij_SH, hi, hl, ij_HR)) (q3 : ¬ (a0 < 0) → ¬ (64 ≤ a0) → ¬ ((lg_cmp ((((hl 13 3) : Int64).toUInt64 >>> ((a0 : Int32).toInt64.toUInt64 &&& Int64.toUInt64 63)).toInt64 &&& 1) 0) = 0) → (a0 < 0) → Q (some (.int (1))) (ij_SH, hi, (ij_ul hl 13 3 ((hl 13 3) &&& (0 ^^^ (Int64.ofNat 18446744073709551615)))), ij_HR)) (q4 : ¬ (a0 < 0) → ¬ (64 ≤ a0) → ¬ ((lg_cmp ((((hl 13 3) : Int64).toUInt64 >>> ((a0 : Int32).toInt64.toUInt64 &&& Int64.toUInt64 63)).toInt64 &&& 1) 0) = 0) → ¬ (a0 < 0) → (64 ≤ a0) → Q (some (.int (1))) (ij_SH, hi, (ij_ul hl 13 3 ((hl 13 3) &&& (0 ^^^ (Int64.ofNat 18446744073709551615)))), ij_HR)) (q5 : ¬ (a0 < 0) → ¬ (64 ≤ a0) → ¬ ((lg_cmp ((((hl 13 3) : Int64).toUInt64 >>> ((a0 : Int32).toInt64.toUInt64 &&& Int64.toUInt64 63)).toInt64 &&& 1) 0) = 0) → ¬ (a0 < 0) → ¬ (64 ≤ a0) → Q (some (.int (1))) (ij_SH, hi, (ij_ul hl 13 3 ((hl 13 3) &&& ((1 <<< ((a0 : Int32).toInt64 &&& 63)) ^^^ (Int64.ofNat 18446744073709551615)))), ij_HR)) : ij_R xt 182 0 [some (.ref 13), some (.int a0)] [] (ij_SH, hi, hl, ij_HR) Q := by
  refine ij_call 4 74 [some (.long ((hl 13 3))), none, some (.int a0)] [] 8 [some (.ref 13), some (.int a0)] (ij_SH, hi, hl, ij_HR) (fun n => rfl) (s74 (hl 13 3) a0 (fun c1 => ?_) (fun c2 c3 => ?_) (fun c4 c5 c6 => ?_) (fun c7 c8 c9 => ?_))
  · skip
    exact ij_ret 3 (some (.int (0))) (ij_SH, hi, hl, ij_HR) (fun n => rfl) (q0 c1)
  · skip
    exact ij_ret 3 (some (.int (0))) (ij_SH, hi, hl, ij_HR) (fun n => rfl) (q1 c2 c3)
  · skip
    exact ij_ret 3 (some (.int (0))) (ij_SH, hi, hl, ij_HR) (fun n => rfl) (q2 c4 c5 c6)
  · skip
    refine ij_call 6 6 [some (.int a0)] [.long ((hl 13 3)), .ref 13] 22 [some (.ref 13), some (.int a0)] (ij_SH, hi, hl, ij_HR) (fun n => rfl) (s6 a0 (fun c10 => ?_) (fun c11 c12 => ?_) (fun c13 c14 => ?_))
    · skip
      exact ij_ret 6 (some (.int (1))) (ij_SH, hi, (ij_ul hl 13 3 ((hl 13 3) &&& (0 ^^^ (Int64.ofNat 18446744073709551615)))), ij_HR) (fun n => rfl) (q3 c7 c8 c9 c10)
    · skip
      exact ij_ret 6 (some (.int (1))) (ij_SH, hi, (ij_ul hl 13 3 ((hl 13 3) &&& (0 ^^^ (Int64.ofNat 18446744073709551615)))), ij_HR) (fun n => rfl) (q4 c7 c8 c9 c11 c12)
    · skip
      exact ij_ret 6 (some (.int (1))) (ij_SH, hi, (ij_ul hl 13 3 ((hl 13 3) &&& ((1 <<< ((a0 : Int32).toInt64 &&& 63)) ^^^ (Int64.ofNat 18446744073709551615)))), ij_HR) (fun n => rfl) (q5 c7 c8 c9 c13 c14)
set_option maxRecDepth 10000 in
-- ScaleForge.lift(I)I
theorem s183_0 {xt : ij_X} {hi : Nat → Nat → Int32} {hl : Nat → Nat → Int64} {Q : Option Value → ij_H → Prop} (a0 : Int32) (q0 : (a0 < 0) → Q (some (.int ((-1)))) (ij_SH, (ij_ui hi 0 0 1), hl, ij_HR)) (q1 : ¬ (a0 < 0) → ((hi 24 1) ≤ a0) → Q (some (.int ((-1)))) (ij_SH, (ij_ui hi 0 0 1), hl, ij_HR)) (q2 : ¬ (a0 < 0) → ¬ ((hi 24 1) ≤ a0) → (a0 < 0) → Q (some (.int ((-1)))) (ij_SH, (ij_ui hi 0 0 7), hl, ij_HR)) (q3 : ¬ (a0 < 0) → ¬ ((hi 24 1) ≤ a0) → ¬ (a0 < 0) → (64 ≤ a0) → Q (some (.int ((-1)))) (ij_SH, (ij_ui hi 0 0 7), hl, ij_HR)) (q4 : ¬ (a0 < 0) → ¬ ((hi 24 1) ≤ a0) → ¬ (a0 < 0) → ¬ (64 ≤ a0) → ((lg_cmp ((((hl 23 3) : Int64).toUInt64 >>> ((a0 : Int32).toInt64.toUInt64 &&& Int64.toUInt64 63)).toInt64 &&& 1) 0) = 0) → Q (some (.int ((-1)))) (ij_SH, (ij_ui hi 0 0 7), hl, ij_HR)) (q5 : ¬ (a0 < 0) → ¬ ((hi 24 1) ≤ a0) → ¬ (a0 < 0) → ¬ (64 ≤ a0) → ¬ ((lg_cmp ((((hl 23 3) : Int64).toUInt64 >>> ((a0 : Int32).toInt64.toUInt64 &&& Int64.toUInt64 63)).toInt64 &&& 1) 0) = 0) → (a0 < 0) → Q (some (.int ((ij_pc ((hl 23 3) &&& (0 ^^^ (Int64.ofNat 18446744073709551615))))))) (ij_SH, (ij_ui hi 0 0 0), (ij_ul hl 23 3 ((hl 23 3) &&& (0 ^^^ (Int64.ofNat 18446744073709551615)))), ij_HR)) (q6 : ¬ (a0 < 0) → ¬ ((hi 24 1) ≤ a0) → ¬ (a0 < 0) → ¬ (64 ≤ a0) → ¬ ((lg_cmp ((((hl 23 3) : Int64).toUInt64 >>> ((a0 : Int32).toInt64.toUInt64 &&& Int64.toUInt64 63)).toInt64 &&& 1) 0) = 0) → ¬ (a0 < 0) → (64 ≤ a0) → Q (some (.int ((ij_pc ((hl 23 3) &&& (0 ^^^ (Int64.ofNat 18446744073709551615))))))) (ij_SH, (ij_ui hi 0 0 0), (ij_ul hl 23 3 ((hl 23 3) &&& (0 ^^^ (Int64.ofNat 18446744073709551615)))), ij_HR)) (q7 : ¬ (a0 < 0) → ¬ ((hi 24 1) ≤ a0) → ¬ (a0 < 0) → ¬ (64 ≤ a0) → ¬ ((lg_cmp ((((hl 23 3) : Int64).toUInt64 >>> ((a0 : Int32).toInt64.toUInt64 &&& Int64.toUInt64 63)).toInt64 &&& 1) 0) = 0) → ¬ (a0 < 0) → ¬ (64 ≤ a0) → Q (some (.int ((ij_pc ((hl 23 3) &&& ((1 <<< ((a0 : Int32).toInt64 &&& 63)) ^^^ (Int64.ofNat 18446744073709551615))))))) (ij_SH, (ij_ui hi 0 0 0), (ij_ul hl 23 3 ((hl 23 3) &&& ((1 <<< ((a0 : Int32).toInt64 &&& 63)) ^^^ (Int64.ofNat 18446744073709551615)))), ij_HR)) : ij_R xt 183 0 [some (.ref 0), some (.int a0)] [] (ij_SH, hi, hl, ij_HR) Q := by
  refine ij_call 4 77 [some (.ref 23), some (.int a0)] [] 8 [some (.ref 0), some (.int a0)] (ij_SH, hi, hl, ij_HR) (fun n => rfl) (s77_23 a0 (fun c1 => ?_) (fun c2 c3 => ?_) (fun c4 c5 => ?_))
  · skip
    refine ij_call 4 44 [some (.ref 0), some (.int (1))] [] 16 [some (.ref 0), some (.int a0)] (ij_SH, hi, hl, ij_HR) (fun n => rfl) (s44_0 1 ?_)
    -- back
    exact ij_ret 1 (some (.int ((-1)))) (ij_SH, (ij_ui hi 0 0 1), hl, ij_HR) (fun n => rfl) (q0 c1)
  · skip
    refine ij_call 4 44 [some (.ref 0), some (.int (1))] [] 16 [some (.ref 0), some (.int a0)] (ij_SH, hi, hl, ij_HR) (fun n => rfl) (s44_0 1 ?_)
    -- back
    exact ij_ret 1 (some (.int ((-1)))) (ij_SH, (ij_ui hi 0 0 1), hl, ij_HR) (fun n => rfl) (q1 c2 c3)
  · skip
    refine ij_call 5 182 [some (.ref 23), some (.int a0)] [] 25 [some (.ref 0), some (.int a0)] (ij_SH, hi, hl, ij_HR) (fun n => rfl) (s182_23 a0 (fun c6 => ?_) (fun c7 c8 => ?_) (fun c9 c10 c11 => ?_) (fun c12 c13 c14 c15 => ?_) (fun c16 c17 c18 c19 c20 => ?_) (fun c21 c22 c23 c24 c25 => ?_))
    · skip
      refine ij_call 4 44 [some (.ref 0), some (.int (7))] [] 51 [some (.ref 0), some (.int a0)] (ij_SH, hi, hl, ij_HR) (fun n => rfl) (s44_0 7 ?_)
      -- back
      exact ij_ret 1 (some (.int ((-1)))) (ij_SH, (ij_ui hi 0 0 7), hl, ij_HR) (fun n => rfl) (q2 c4 c5 c6)
    · skip
      refine ij_call 4 44 [some (.ref 0), some (.int (7))] [] 51 [some (.ref 0), some (.int a0)] (ij_SH, hi, hl, ij_HR) (fun n => rfl) (s44_0 7 ?_)
      -- back
      exact ij_ret 1 (some (.int ((-1)))) (ij_SH, (ij_ui hi 0 0 7), hl, ij_HR) (fun n => rfl) (q3 c4 c5 c7 c8)
    · skip
      refine ij_call 4 44 [some (.ref 0), some (.int (7))] [] 51 [some (.ref 0), some (.int a0)] (ij_SH, hi, hl, ij_HR) (fun n => rfl) (s44_0 7 ?_)
      -- back
      exact ij_ret 1 (some (.int ((-1)))) (ij_SH, (ij_ui hi 0 0 7), hl, ij_HR) (fun n => rfl) (q4 c4 c5 c9 c10 c11)
    · skip
      refine ij_call 6 88 [some (.long (((hl 23 3) &&& (0 ^^^ (Int64.ofNat 18446744073709551615))))), none] [.ref 0] 39 [some (.ref 0), some (.int a0)] (ij_SH, hi, (ij_ul hl 23 3 ((hl 23 3) &&& (0 ^^^ (Int64.ofNat 18446744073709551615)))), ij_HR) (fun n => rfl) (s_bitCount ((hl 23 3) &&& (0 ^^^ (Int64.ofNat 18446744073709551615))) ?_)
      -- back
      refine ij_call 1 90 [some (.ref 0), some (.int ((ij_pc ((hl 23 3) &&& (0 ^^^ (Int64.ofNat 18446744073709551615))))))] [] 42 [some (.ref 0), some (.int a0)] (ij_SH, hi, (ij_ul hl 23 3 ((hl 23 3) &&& (0 ^^^ (Int64.ofNat 18446744073709551615)))), ij_HR) (fun n => rfl) (s90_0 (ij_pc ((hl 23 3) &&& (0 ^^^ (Int64.ofNat 18446744073709551615)))) ?_)
      -- back
      exact ij_ret 2 (some (.int ((ij_pc ((hl 23 3) &&& (0 ^^^ (Int64.ofNat 18446744073709551615))))))) (ij_SH, (ij_ui hi 0 0 0), (ij_ul hl 23 3 ((hl 23 3) &&& (0 ^^^ (Int64.ofNat 18446744073709551615)))), ij_HR) (fun n => rfl) (q5 c4 c5 c12 c13 c14 c15)
    · skip
      refine ij_call 6 88 [some (.long (((hl 23 3) &&& (0 ^^^ (Int64.ofNat 18446744073709551615))))), none] [.ref 0] 39 [some (.ref 0), some (.int a0)] (ij_SH, hi, (ij_ul hl 23 3 ((hl 23 3) &&& (0 ^^^ (Int64.ofNat 18446744073709551615)))), ij_HR) (fun n => rfl) (s_bitCount ((hl 23 3) &&& (0 ^^^ (Int64.ofNat 18446744073709551615))) ?_)
      -- back
      refine ij_call 1 90 [some (.ref 0), some (.int ((ij_pc ((hl 23 3) &&& (0 ^^^ (Int64.ofNat 18446744073709551615))))))] [] 42 [some (.ref 0), some (.int a0)] (ij_SH, hi, (ij_ul hl 23 3 ((hl 23 3) &&& (0 ^^^ (Int64.ofNat 18446744073709551615)))), ij_HR) (fun n => rfl) (s90_0 (ij_pc ((hl 23 3) &&& (0 ^^^ (Int64.ofNat 18446744073709551615)))) ?_)
      -- back
      exact ij_ret 2 (some (.int ((ij_pc ((hl 23 3) &&& (0 ^^^ (Int64.ofNat 18446744073709551615))))))) (ij_SH, (ij_ui hi 0 0 0), (ij_ul hl 23 3 ((hl 23 3) &&& (0 ^^^ (Int64.ofNat 18446744073709551615)))), ij_HR) (fun n => rfl) (q6 c4 c5 c16 c17 c18 c19 c20)
    · skip
      refine ij_call 6 88 [some (.long (((hl 23 3) &&& ((1 <<< ((a0 : Int32).toInt64 &&& 63)) ^^^ (Int64.ofNat 18446744073709551615))))), none] [.ref 0] 39 [some (.ref 0), some (.int a0)] (ij_SH, hi, (ij_ul hl 23 3 ((hl 23 3) &&& ((1 <<< ((a0 : Int32).toInt64 &&& 63)) ^^^ (Int64.ofNat 18446744073709551615)))), ij_HR) (fun n => rfl) (s_bitCount ((hl 23 3) &&& ((1 <<< ((a0 : Int32).toInt64 &&& 63)) ^^^ (Int64.ofNat 18446744073709551615))) ?_)
      -- back
      refine ij_call 1 90 [some (.ref 0), some (.int ((ij_pc ((hl 23 3) &&& ((1 <<< ((a0 : Int32).toInt64 &&& 63)) ^^^ (Int64.ofNat 18446744073709551615))))))] [] 42 [some (.ref 0), some (.int a0)] (ij_SH, hi, (ij_ul hl 23 3 ((hl 23 3) &&& ((1 <<< ((a0 : Int32).toInt64 &&& 63)) ^^^ (Int64.ofNat 18446744073709551615)))), ij_HR) (fun n => rfl) (s90_0 (ij_pc ((hl 23 3) &&& ((1 <<< ((a0 : Int32).toInt64 &&& 63)) ^^^ (Int64.ofNat 18446744073709551615)))) ?_)
      -- back
      exact ij_ret 2 (some (.int ((ij_pc ((hl 23 3) &&& ((1 <<< ((a0 : Int32).toInt64 &&& 63)) ^^^ (Int64.ofNat 18446744073709551615))))))) (ij_SH, (ij_ui hi 0 0 0), (ij_ul hl 23 3 ((hl 23 3) &&& ((1 <<< ((a0 : Int32).toInt64 &&& 63)) ^^^ (Int64.ofNat 18446744073709551615)))), ij_HR) (fun n => rfl) (q7 c4 c5 c21 c22 c23 c24 c25)
set_option maxRecDepth 10000 in
-- ScaleForge.sift()I
theorem s186_0 {xt : ij_X} {hi : Nat → Nat → Int32} {hl : Nat → Nat → Int64} {Q : Option Value → ij_H → Prop} (q0 : Q (some (.int (((ij_pc (hl 23 3)) - (ij_pc ((hl 23 3) &&& (hl 23 4))))))) (ij_SH, (ij_ui hi 0 0 0), (ij_ul hl 23 3 ((hl 23 3) &&& (hl 23 4))), ij_HR)) : ij_R xt 186 0 [some (.ref 0), none] [] (ij_SH, hi, hl, ij_HR) Q := by
  refine ij_call 4 88 [some (.long ((hl 23 3))), none] [] 10 [some (.ref 0), none] (ij_SH, hi, hl, ij_HR) (fun n => rfl) (s_bitCount (hl 23 3) ?_)
  -- back
  refine ij_call 16 88 [some (.long (((hl 23 3) &&& (hl 23 4)))), none] [.int ((ij_pc (hl 23 3))), .ref 0] 42 [some (.ref 0), some (.int ((ij_pc (hl 23 3))))] (ij_SH, hi, (ij_ul hl 23 3 ((hl 23 3) &&& (hl 23 4))), ij_HR) (fun n => rfl) (s_bitCount ((hl 23 3) &&& (hl 23 4)) ?_)
  -- back
  refine ij_call 2 90 [some (.ref 0), some (.int (((ij_pc (hl 23 3)) - (ij_pc ((hl 23 3) &&& (hl 23 4))))))] [] 46 [some (.ref 0), some (.int ((ij_pc (hl 23 3))))] (ij_SH, hi, (ij_ul hl 23 3 ((hl 23 3) &&& (hl 23 4))), ij_HR) (fun n => rfl) (s90_0 ((ij_pc (hl 23 3)) - (ij_pc ((hl 23 3) &&& (hl 23 4)))) ?_)
  -- back
  exact ij_ret 1 (some (.int (((ij_pc (hl 23 3)) - (ij_pc ((hl 23 3) &&& (hl 23 4))))))) (ij_SH, (ij_ui hi 0 0 0), (ij_ul hl 23 3 ((hl 23 3) &&& (hl 23 4))), ij_HR) (fun n => rfl) (q0)
set_option maxRecDepth 10000 in
-- ScaleForge$Bits.turn(JII)J
theorem s188 {xt : ij_X} {hi : Nat → Nat → Int32} {hl : Nat → Nat → Int64} {Q : Option Value → ij_H → Prop} (a0 : Int64) (a1 : Int32) (a2 : Int32) (q0 : (a2 < 0) → Q (some (.long ((((a0 <<< ((a1 : Int32).toInt64 &&& 63)) ||| ((a0 : Int64).toUInt64 >>> (((a2 - a1) : Int32).toInt64.toUInt64 &&& Int64.toUInt64 63)).toInt64) &&& (0 - 1))))) (ij_SH, hi, hl, ij_HR)) (q1 : ¬ (a2 < 0) → (64 ≤ a2) → Q (some (.long ((((a0 <<< ((a1 : Int32).toInt64 &&& 63)) ||| ((a0 : Int64).toUInt64 >>> (((a2 - a1) : Int32).toInt64.toUInt64 &&& Int64.toUInt64 63)).toInt64) &&& (0 - 1))))) (ij_SH, hi, hl, ij_HR)) (q2 : ¬ (a2 < 0) → ¬ (64 ≤ a2) → Q (some (.long ((((a0 <<< ((a1 : Int32).toInt64 &&& 63)) ||| ((a0 : Int64).toUInt64 >>> (((a2 - a1) : Int32).toInt64.toUInt64 &&& Int64.toUInt64 63)).toInt64) &&& ((1 <<< ((a2 : Int32).toInt64 &&& 63)) - 1))))) (ij_SH, hi, hl, ij_HR)) : ij_R xt 188 0 [some (.long a0), none, some (.int a1), some (.int a2)] [] (ij_SH, hi, hl, ij_HR) Q := by
  refine ij_call 11 7 [some (.int a2)] [.long (((a0 <<< ((a1 : Int32).toInt64 &&& 63)) ||| ((a0 : Int64).toUInt64 >>> (((a2 - a1) : Int32).toInt64.toUInt64 &&& Int64.toUInt64 63)).toInt64))] 13 [some (.long a0), none, some (.int a1), some (.int a2)] (ij_SH, hi, hl, ij_HR) (fun n => rfl) (s7 a2 (fun c1 => ?_) (fun c2 c3 => ?_) (fun c4 c5 => ?_))
  · skip
    exact ij_ret 2 (some (.long ((((a0 <<< ((a1 : Int32).toInt64 &&& 63)) ||| ((a0 : Int64).toUInt64 >>> (((a2 - a1) : Int32).toInt64.toUInt64 &&& Int64.toUInt64 63)).toInt64) &&& (0 - 1))))) (ij_SH, hi, hl, ij_HR) (fun n => rfl) (q0 c1)
  · skip
    exact ij_ret 2 (some (.long ((((a0 <<< ((a1 : Int32).toInt64 &&& 63)) ||| ((a0 : Int64).toUInt64 >>> (((a2 - a1) : Int32).toInt64.toUInt64 &&& Int64.toUInt64 63)).toInt64) &&& (0 - 1))))) (ij_SH, hi, hl, ij_HR) (fun n => rfl) (q1 c2 c3)
  · skip
    exact ij_ret 2 (some (.long ((((a0 <<< ((a1 : Int32).toInt64 &&& 63)) ||| ((a0 : Int64).toUInt64 >>> (((a2 - a1) : Int32).toInt64.toUInt64 &&& Int64.toUInt64 63)).toInt64) &&& ((1 <<< ((a2 : Int32).toInt64 &&& 63)) - 1))))) (ij_SH, hi, hl, ij_HR) (fun n => rfl) (q2 c4 c5)
set_option maxRecDepth 10000 in
-- ScaleForge$Scale.fitting()I
theorem s189_23 {xt : ij_X} {hi : Nat → Nat → Int32} {hl : Nat → Nat → Int64} {Q : Option Value → ij_H → Prop} (q0 : Q (some (.int ((ij_pc ((hl 23 3) &&& (hl 23 4)))))) (ij_SH, hi, hl, ij_HR)) : ij_R xt 189 0 [some (.ref 23)] [] (ij_SH, hi, hl, ij_HR) Q := by
  refine ij_call 6 88 [some (.long (((hl 23 3) &&& (hl 23 4)))), none] [] 12 [some (.ref 23)] (ij_SH, hi, hl, ij_HR) (fun n => rfl) (s_bitCount ((hl 23 3) &&& (hl 23 4)) ?_)
  -- back
  exact ij_ret 1 (some (.int ((ij_pc ((hl 23 3) &&& (hl 23 4)))))) (ij_SH, hi, hl, ij_HR) (fun n => rfl) (q0)
set_option maxRecDepth 10000 in
-- ScaleForge$Scale.fitting()I
theorem s189_44 {xt : ij_X} {hi : Nat → Nat → Int32} {hl : Nat → Nat → Int64} {Q : Option Value → ij_H → Prop} (q0 : Q (some (.int ((ij_pc ((hl 44 3) &&& (hl 44 4)))))) (ij_SH, hi, hl, ij_HR)) : ij_R xt 189 0 [some (.ref 44)] [] (ij_SH, hi, hl, ij_HR) Q := by
  refine ij_call 6 88 [some (.long (((hl 44 3) &&& (hl 44 4)))), none] [] 12 [some (.ref 44)] (ij_SH, hi, hl, ij_HR) (fun n => rfl) (s_bitCount ((hl 44 3) &&& (hl 44 4)) ?_)
  -- back
  exact ij_ret 1 (some (.int ((ij_pc ((hl 44 3) &&& (hl 44 4)))))) (ij_SH, hi, hl, ij_HR) (fun n => rfl) (q0)
set_option maxRecDepth 10000 in
-- ScaleForge$Scale.fitting()I
theorem s189_13 {xt : ij_X} {hi : Nat → Nat → Int32} {hl : Nat → Nat → Int64} {Q : Option Value → ij_H → Prop} (q0 : Q (some (.int ((ij_pc ((hl 13 3) &&& (hl 13 4)))))) (ij_SH, hi, hl, ij_HR)) : ij_R xt 189 0 [some (.ref 13)] [] (ij_SH, hi, hl, ij_HR) Q := by
  refine ij_call 6 88 [some (.long (((hl 13 3) &&& (hl 13 4)))), none] [] 12 [some (.ref 13)] (ij_SH, hi, hl, ij_HR) (fun n => rfl) (s_bitCount ((hl 13 3) &&& (hl 13 4)) ?_)
  -- back
  exact ij_ret 1 (some (.int ((ij_pc ((hl 13 3) &&& (hl 13 4)))))) (ij_SH, hi, hl, ij_HR) (fun n => rfl) (q0)
set_option maxRecDepth 10000 in
-- ScaleForge$Scale.pressedAt(I)I
theorem s200_23 {xt : ij_X} {hi : Nat → Nat → Int32} {hl : Nat → Nat → Int64} {Q : Option Value → ij_H → Prop} (a0 : Int32) (q0 : (a0 < 0) → Q (some (.int ((-1)))) (ij_SH, hi, hl, ij_HR)) (q1 : ¬ (a0 < 0) → ((hi 23 2) ≤ a0) → Q (some (.int ((-1)))) (ij_SH, hi, hl, ij_HR)) (q2 : ¬ (a0 < 0) → ¬ ((hi 23 2) ≤ a0) → (12 ≤ a0) → Q (some (.int ((-1)))) (ij_SH, hi, hl, ij_HR)) (q3 : ¬ (a0 < 0) → ¬ ((hi 23 2) ≤ a0) → ¬ (12 ≤ a0) → Q (some (.int ((hi 25 (a0).toNatClampNeg)))) (ij_SH, hi, hl, ij_HR)) : ij_R xt 200 0 [some (.ref 23), some (.int a0)] [] (ij_SH, hi, hl, ij_HR) Q := by
  refine ij_br 2 (a0 < 0) 30 4 [some (.ref 23), some (.int a0)] [] (ij_SH, hi, hl, ij_HR) (fun n => rfl) (fun c1 => ?_) (fun c1 => ?_)
  · skip
    exact ij_ret 2 (some (.int ((-1)))) (ij_SH, hi, hl, ij_HR) (fun n => rfl) (q0 c1)
  · skip
    refine ij_br 4 ((hi 23 2) ≤ a0) 30 12 [some (.ref 23), some (.int a0)] [] (ij_SH, hi, hl, ij_HR) (fun n => rfl) (fun c2 => ?_) (fun c2 => ?_)
    · skip
      exact ij_ret 2 (some (.int ((-1)))) (ij_SH, hi, hl, ij_HR) (fun n => rfl) (q1 c1 c2)
    · skip
      refine ij_br 5 (12 ≤ a0) 30 21 [some (.ref 23), some (.int a0)] [] (ij_SH, hi, hl, ij_HR) (fun n => rfl) (fun c3 => ?_) (fun c3 => ?_)
      · skip
        exact ij_ret 2 (some (.int ((-1)))) (ij_SH, hi, hl, ij_HR) (fun n => rfl) (q2 c1 c2 c3)
      · skip
        refine ij_go 3 26 [some (.ref 23), some (.int a0)] [.int a0, .ref 25] (ij_SH, hi, hl, ij_HR) (fun n => rfl) ?_
        refine ij_ial rfl rfl rfl (ij_bd c1 (Int32.not_le.mp c3) (by decide)) ?_
        exact ij_ret 2 (some (.int ((hi 25 (a0).toNatClampNeg)))) (ij_SH, hi, hl, ij_HR) (fun n => rfl) (q3 c1 c2 c3)
set_option maxRecDepth 10000 in
-- ScaleForge$Scale.pressedAt(I)I
theorem s200_44 {xt : ij_X} {hi : Nat → Nat → Int32} {hl : Nat → Nat → Int64} {Q : Option Value → ij_H → Prop} (a0 : Int32) (q0 : (a0 < 0) → Q (some (.int ((-1)))) (ij_SH, hi, hl, ij_HR)) (q1 : ¬ (a0 < 0) → ((hi 44 2) ≤ a0) → Q (some (.int ((-1)))) (ij_SH, hi, hl, ij_HR)) (q2 : ¬ (a0 < 0) → ¬ ((hi 44 2) ≤ a0) → (12 ≤ a0) → Q (some (.int ((-1)))) (ij_SH, hi, hl, ij_HR)) (q3 : ¬ (a0 < 0) → ¬ ((hi 44 2) ≤ a0) → ¬ (12 ≤ a0) → Q (some (.int ((hi 46 (a0).toNatClampNeg)))) (ij_SH, hi, hl, ij_HR)) : ij_R xt 200 0 [some (.ref 44), some (.int a0)] [] (ij_SH, hi, hl, ij_HR) Q := by
  refine ij_br 2 (a0 < 0) 30 4 [some (.ref 44), some (.int a0)] [] (ij_SH, hi, hl, ij_HR) (fun n => rfl) (fun c1 => ?_) (fun c1 => ?_)
  · skip
    exact ij_ret 2 (some (.int ((-1)))) (ij_SH, hi, hl, ij_HR) (fun n => rfl) (q0 c1)
  · skip
    refine ij_br 4 ((hi 44 2) ≤ a0) 30 12 [some (.ref 44), some (.int a0)] [] (ij_SH, hi, hl, ij_HR) (fun n => rfl) (fun c2 => ?_) (fun c2 => ?_)
    · skip
      exact ij_ret 2 (some (.int ((-1)))) (ij_SH, hi, hl, ij_HR) (fun n => rfl) (q1 c1 c2)
    · skip
      refine ij_br 5 (12 ≤ a0) 30 21 [some (.ref 44), some (.int a0)] [] (ij_SH, hi, hl, ij_HR) (fun n => rfl) (fun c3 => ?_) (fun c3 => ?_)
      · skip
        exact ij_ret 2 (some (.int ((-1)))) (ij_SH, hi, hl, ij_HR) (fun n => rfl) (q2 c1 c2 c3)
      · skip
        refine ij_go 3 26 [some (.ref 44), some (.int a0)] [.int a0, .ref 46] (ij_SH, hi, hl, ij_HR) (fun n => rfl) ?_
        refine ij_ial rfl rfl rfl (ij_bd c1 (Int32.not_le.mp c3) (by decide)) ?_
        exact ij_ret 2 (some (.int ((hi 46 (a0).toNatClampNeg)))) (ij_SH, hi, hl, ij_HR) (fun n => rfl) (q3 c1 c2 c3)
set_option maxRecDepth 10000 in
-- ScaleForge$Scale.pressedAt(I)I
theorem s200_13 {xt : ij_X} {hi : Nat → Nat → Int32} {hl : Nat → Nat → Int64} {Q : Option Value → ij_H → Prop} (a0 : Int32) (q0 : (a0 < 0) → Q (some (.int ((-1)))) (ij_SH, hi, hl, ij_HR)) (q1 : ¬ (a0 < 0) → ((hi 13 2) ≤ a0) → Q (some (.int ((-1)))) (ij_SH, hi, hl, ij_HR)) (q2 : ¬ (a0 < 0) → ¬ ((hi 13 2) ≤ a0) → (12 ≤ a0) → Q (some (.int ((-1)))) (ij_SH, hi, hl, ij_HR)) (q3 : ¬ (a0 < 0) → ¬ ((hi 13 2) ≤ a0) → ¬ (12 ≤ a0) → Q (some (.int ((hi 15 (a0).toNatClampNeg)))) (ij_SH, hi, hl, ij_HR)) : ij_R xt 200 0 [some (.ref 13), some (.int a0)] [] (ij_SH, hi, hl, ij_HR) Q := by
  refine ij_br 2 (a0 < 0) 30 4 [some (.ref 13), some (.int a0)] [] (ij_SH, hi, hl, ij_HR) (fun n => rfl) (fun c1 => ?_) (fun c1 => ?_)
  · skip
    exact ij_ret 2 (some (.int ((-1)))) (ij_SH, hi, hl, ij_HR) (fun n => rfl) (q0 c1)
  · skip
    refine ij_br 4 ((hi 13 2) ≤ a0) 30 12 [some (.ref 13), some (.int a0)] [] (ij_SH, hi, hl, ij_HR) (fun n => rfl) (fun c2 => ?_) (fun c2 => ?_)
    · skip
      exact ij_ret 2 (some (.int ((-1)))) (ij_SH, hi, hl, ij_HR) (fun n => rfl) (q1 c1 c2)
    · skip
      refine ij_br 5 (12 ≤ a0) 30 21 [some (.ref 13), some (.int a0)] [] (ij_SH, hi, hl, ij_HR) (fun n => rfl) (fun c3 => ?_) (fun c3 => ?_)
      · skip
        exact ij_ret 2 (some (.int ((-1)))) (ij_SH, hi, hl, ij_HR) (fun n => rfl) (q2 c1 c2 c3)
      · skip
        refine ij_go 3 26 [some (.ref 13), some (.int a0)] [.int a0, .ref 15] (ij_SH, hi, hl, ij_HR) (fun n => rfl) ?_
        refine ij_ial rfl rfl rfl (ij_bd c1 (Int32.not_le.mp c3) (by decide)) ?_
        exact ij_ret 2 (some (.int ((hi 15 (a0).toNatClampNeg)))) (ij_SH, hi, hl, ij_HR) (fun n => rfl) (q3 c1 c2 c3)
set_option maxRecDepth 10000 in
-- ScaleForge.recent(I)I
theorem s201_0 {xt : ij_X} {hi : Nat → Nat → Int32} {hl : Nat → Nat → Int64} {Q : Option Value → ij_H → Prop} (a0 : Int32) (q0 : (a0 < 0) → ((-1) = (-1)) → Q (some (.int ((-1)))) (ij_SH, (ij_ui hi 0 0 6), hl, ij_HR)) (q1 : (a0 < 0) → ¬ ((-1) = (-1)) → Q (some (.int ((-1)))) (ij_SH, (ij_ui hi 0 0 0), hl, ij_HR)) (q2 : ¬ (a0 < 0) → ((hi 23 2) ≤ a0) → ((-1) = (-1)) → Q (some (.int ((-1)))) (ij_SH, (ij_ui hi 0 0 6), hl, ij_HR)) (q3 : ¬ (a0 < 0) → ((hi 23 2) ≤ a0) → ¬ ((-1) = (-1)) → Q (some (.int ((-1)))) (ij_SH, (ij_ui hi 0 0 0), hl, ij_HR)) (q4 : ¬ (a0 < 0) → ¬ ((hi 23 2) ≤ a0) → (12 ≤ a0) → ((-1) = (-1)) → Q (some (.int ((-1)))) (ij_SH, (ij_ui hi 0 0 6), hl, ij_HR)) (q5 : ¬ (a0 < 0) → ¬ ((hi 23 2) ≤ a0) → (12 ≤ a0) → ¬ ((-1) = (-1)) → Q (some (.int ((-1)))) (ij_SH, (ij_ui hi 0 0 0), hl, ij_HR)) (q6 : ¬ (a0 < 0) → ¬ ((hi 23 2) ≤ a0) → ¬ (12 ≤ a0) → ((hi 25 (a0).toNatClampNeg) = (-1)) → Q (some (.int ((-1)))) (ij_SH, (ij_ui hi 0 0 6), hl, ij_HR)) (q7 : ¬ (a0 < 0) → ¬ ((hi 23 2) ≤ a0) → ¬ (12 ≤ a0) → ¬ ((hi 25 (a0).toNatClampNeg) = (-1)) → Q (some (.int ((hi 25 (a0).toNatClampNeg)))) (ij_SH, (ij_ui hi 0 0 0), hl, ij_HR)) : ij_R xt 201 0 [some (.ref 0), some (.int a0)] [] (ij_SH, hi, hl, ij_HR) Q := by
  refine ij_call 5 200 [some (.ref 23), some (.int a0)] [.ref 0] 9 [some (.ref 0), some (.int a0)] (ij_SH, hi, hl, ij_HR) (fun n => rfl) (s200_23 a0 (fun c1 => ?_) (fun c2 c3 => ?_) (fun c4 c5 c6 => ?_) (fun c7 c8 c9 => ?_))
  · skip
    refine ij_call 1 167 [some (.ref 0), some (.int ((-1)))] [] 12 [some (.ref 0), some (.int a0)] (ij_SH, hi, hl, ij_HR) (fun n => rfl) (s167_0 (-1) (fun c10 => ?_) (fun c11 => ?_))
    · skip
      exact ij_ret 1 (some (.int ((-1)))) (ij_SH, (ij_ui hi 0 0 6), hl, ij_HR) (fun n => rfl) (q0 c1 c10)
    · skip
      exact ij_ret 1 (some (.int ((-1)))) (ij_SH, (ij_ui hi 0 0 0), hl, ij_HR) (fun n => rfl) (q1 c1 c11)
  · skip
    refine ij_call 1 167 [some (.ref 0), some (.int ((-1)))] [] 12 [some (.ref 0), some (.int a0)] (ij_SH, hi, hl, ij_HR) (fun n => rfl) (s167_0 (-1) (fun c12 => ?_) (fun c13 => ?_))
    · skip
      exact ij_ret 1 (some (.int ((-1)))) (ij_SH, (ij_ui hi 0 0 6), hl, ij_HR) (fun n => rfl) (q2 c2 c3 c12)
    · skip
      exact ij_ret 1 (some (.int ((-1)))) (ij_SH, (ij_ui hi 0 0 0), hl, ij_HR) (fun n => rfl) (q3 c2 c3 c13)
  · skip
    refine ij_call 1 167 [some (.ref 0), some (.int ((-1)))] [] 12 [some (.ref 0), some (.int a0)] (ij_SH, hi, hl, ij_HR) (fun n => rfl) (s167_0 (-1) (fun c14 => ?_) (fun c15 => ?_))
    · skip
      exact ij_ret 1 (some (.int ((-1)))) (ij_SH, (ij_ui hi 0 0 6), hl, ij_HR) (fun n => rfl) (q4 c4 c5 c6 c14)
    · skip
      exact ij_ret 1 (some (.int ((-1)))) (ij_SH, (ij_ui hi 0 0 0), hl, ij_HR) (fun n => rfl) (q5 c4 c5 c6 c15)
  · skip
    refine ij_call 1 167 [some (.ref 0), some (.int ((hi 25 (a0).toNatClampNeg)))] [] 12 [some (.ref 0), some (.int a0)] (ij_SH, hi, hl, ij_HR) (fun n => rfl) (s167_0 (hi 25 (a0).toNatClampNeg) (fun c16 => ?_) (fun c17 => ?_))
    · skip
      exact ij_ret 1 (some (.int ((-1)))) (ij_SH, (ij_ui hi 0 0 6), hl, ij_HR) (fun n => rfl) (q6 c7 c8 c9 c16)
    · skip
      exact ij_ret 1 (some (.int ((hi 25 (a0).toNatClampNeg)))) (ij_SH, (ij_ui hi 0 0 0), hl, ij_HR) (fun n => rfl) (q7 c7 c8 c9 c17)
set_option maxRecDepth 10000 in
-- ScaleForge$Ring.modeOf(I)J
theorem s215_31 {xt : ij_X} {hi : Nat → Nat → Int32} {hl : Nat → Nat → Int64} {Q : Option Value → ij_H → Prop} (a0 : Int32) (q0 : (a0 < 0) → Q (some (.long ((hl 31 1)))) (ij_SH, hi, hl, ij_HR)) (q1 : ¬ (a0 < 0) → ((hi 31 3) ≤ a0) → Q (some (.long ((hl 31 1)))) (ij_SH, hi, hl, ij_HR)) (q2 : ¬ (a0 < 0) → ¬ ((hi 31 3) ≤ a0) → (60 ≤ a0) → Q (some (.long ((hl 31 1)))) (ij_SH, hi, hl, ij_HR)) (q3 : ¬ (a0 < 0) → ¬ ((hi 31 3) ≤ a0) → ¬ (60 ≤ a0) → ((hi 32 (a0).toNatClampNeg) ≤ 0) → Q (some (.long ((hl 31 1)))) (ij_SH, hi, hl, ij_HR)) (q4 : ¬ (a0 < 0) → ¬ ((hi 31 3) ≤ a0) → ¬ (60 ≤ a0) → ¬ ((hi 32 (a0).toNatClampNeg) ≤ 0) → ((hi 31 2) < 0) → Q (some (.long (((((hl 31 1) <<< ((((hi 31 2) - (hi 32 (a0).toNatClampNeg)) : Int32).toInt64 &&& 63)) ||| (((hl 31 1) : Int64).toUInt64 >>> ((((hi 31 2) - ((hi 31 2) - (hi 32 (a0).toNatClampNeg))) : Int32).toInt64.toUInt64 &&& Int64.toUInt64 63)).toInt64) &&& (0 - 1))))) (ij_SH, hi, hl, ij_HR)) (q5 : ¬ (a0 < 0) → ¬ ((hi 31 3) ≤ a0) → ¬ (60 ≤ a0) → ¬ ((hi 32 (a0).toNatClampNeg) ≤ 0) → ¬ ((hi 31 2) < 0) → (64 ≤ (hi 31 2)) → Q (some (.long (((((hl 31 1) <<< ((((hi 31 2) - (hi 32 (a0).toNatClampNeg)) : Int32).toInt64 &&& 63)) ||| (((hl 31 1) : Int64).toUInt64 >>> ((((hi 31 2) - ((hi 31 2) - (hi 32 (a0).toNatClampNeg))) : Int32).toInt64.toUInt64 &&& Int64.toUInt64 63)).toInt64) &&& (0 - 1))))) (ij_SH, hi, hl, ij_HR)) (q6 : ¬ (a0 < 0) → ¬ ((hi 31 3) ≤ a0) → ¬ (60 ≤ a0) → ¬ ((hi 32 (a0).toNatClampNeg) ≤ 0) → ¬ ((hi 31 2) < 0) → ¬ (64 ≤ (hi 31 2)) → Q (some (.long (((((hl 31 1) <<< ((((hi 31 2) - (hi 32 (a0).toNatClampNeg)) : Int32).toInt64 &&& 63)) ||| (((hl 31 1) : Int64).toUInt64 >>> ((((hi 31 2) - ((hi 31 2) - (hi 32 (a0).toNatClampNeg))) : Int32).toInt64.toUInt64 &&& Int64.toUInt64 63)).toInt64) &&& ((1 <<< (((hi 31 2) : Int32).toInt64 &&& 63)) - 1))))) (ij_SH, hi, hl, ij_HR)) : ij_R xt 215 0 [some (.ref 31), some (.int a0), none] [] (ij_SH, hi, hl, ij_HR) Q := by
  refine ij_call 3 138 [some (.ref 31), some (.int a0)] [] 5 [some (.ref 31), some (.int a0), none] (ij_SH, hi, hl, ij_HR) (fun n => rfl) (s138_31 a0 (fun c1 => ?_) (fun c2 c3 => ?_) (fun c4 c5 c6 => ?_) (fun c7 c8 c9 => ?_))
  · skip
    exact ij_ret 6 (some (.long ((hl 31 1)))) (ij_SH, hi, hl, ij_HR) (fun n => rfl) (q0 c1)
  · skip
    exact ij_ret 6 (some (.long ((hl 31 1)))) (ij_SH, hi, hl, ij_HR) (fun n => rfl) (q1 c2 c3)
  · skip
    exact ij_ret 6 (some (.long ((hl 31 1)))) (ij_SH, hi, hl, ij_HR) (fun n => rfl) (q2 c4 c5 c6)
  · skip
    refine ij_br 3 ((hi 32 (a0).toNatClampNeg) ≤ 0) 30 10 [some (.ref 31), some (.int a0), some (.int ((hi 32 (a0).toNatClampNeg)))] [] (ij_SH, hi, hl, ij_HR) (fun n => rfl) (fun c10 => ?_) (fun c10 => ?_)
    · skip
      exact ij_ret 3 (some (.long ((hl 31 1)))) (ij_SH, hi, hl, ij_HR) (fun n => rfl) (q3 c7 c8 c9 c10)
    · skip
      refine ij_call 9 188 [some (.long ((hl 31 1))), none, some (.int (((hi 31 2) - (hi 32 (a0).toNatClampNeg)))), some (.int ((hi 31 2)))] [] 27 [some (.ref 31), some (.int a0), some (.int ((hi 32 (a0).toNatClampNeg)))] (ij_SH, hi, hl, ij_HR) (fun n => rfl) (s188 (hl 31 1) ((hi 31 2) - (hi 32 (a0).toNatClampNeg)) (hi 31 2) (fun c11 => ?_) (fun c12 c13 => ?_) (fun c14 c15 => ?_))
      · skip
        exact ij_ret 2 (some (.long (((((hl 31 1) <<< ((((hi 31 2) - (hi 32 (a0).toNatClampNeg)) : Int32).toInt64 &&& 63)) ||| (((hl 31 1) : Int64).toUInt64 >>> ((((hi 31 2) - ((hi 31 2) - (hi 32 (a0).toNatClampNeg))) : Int32).toInt64.toUInt64 &&& Int64.toUInt64 63)).toInt64) &&& (0 - 1))))) (ij_SH, hi, hl, ij_HR) (fun n => rfl) (q4 c7 c8 c9 c10 c11)
      · skip
        exact ij_ret 2 (some (.long (((((hl 31 1) <<< ((((hi 31 2) - (hi 32 (a0).toNatClampNeg)) : Int32).toInt64 &&& 63)) ||| (((hl 31 1) : Int64).toUInt64 >>> ((((hi 31 2) - ((hi 31 2) - (hi 32 (a0).toNatClampNeg))) : Int32).toInt64.toUInt64 &&& Int64.toUInt64 63)).toInt64) &&& (0 - 1))))) (ij_SH, hi, hl, ij_HR) (fun n => rfl) (q5 c7 c8 c9 c10 c12 c13)
      · skip
        exact ij_ret 2 (some (.long (((((hl 31 1) <<< ((((hi 31 2) - (hi 32 (a0).toNatClampNeg)) : Int32).toInt64 &&& 63)) ||| (((hl 31 1) : Int64).toUInt64 >>> ((((hi 31 2) - ((hi 31 2) - (hi 32 (a0).toNatClampNeg))) : Int32).toInt64.toUInt64 &&& Int64.toUInt64 63)).toInt64) &&& ((1 <<< (((hi 31 2) : Int32).toInt64 &&& 63)) - 1))))) (ij_SH, hi, hl, ij_HR) (fun n => rfl) (q6 c7 c8 c9 c10 c14 c15)
set_option maxRecDepth 10000 in
-- java/lang/Math.abs(I)I
theorem s239 {xt : ij_X} {hi : Nat → Nat → Int32} {hl : Nat → Nat → Int64} {Q : Option Value → ij_H → Prop} (a0 : Int32) (q0 : (0 ≤ a0) → Q (some (.int a0)) (ij_SH, hi, hl, ij_HR)) (q1 : ¬ (0 ≤ a0) → Q (some (.int ((-a0)))) (ij_SH, hi, hl, ij_HR)) : ij_R xt 239 0 [some (.int a0)] [] (ij_SH, hi, hl, ij_HR) Q := by
  refine ij_br 2 (0 ≤ a0) 9 4 [some (.int a0)] [] (ij_SH, hi, hl, ij_HR) (fun n => rfl) (fun c1 => ?_) (fun c1 => ?_)
  · skip
    exact ij_ret 2 (some (.int a0)) (ij_SH, hi, hl, ij_HR) (fun n => rfl) (q0 c1)
  · skip
    exact ij_ret 4 (some (.int ((-a0)))) (ij_SH, hi, hl, ij_HR) (fun n => rfl) (q1 c1)
set_option maxRecDepth 10000 in
-- ScaleForge.fit()I
theorem s258_0 {xt : ij_X} {hi : Nat → Nat → Int32} {hl : Nat → Nat → Int64} {Q : Option Value → ij_H → Prop} (q0 : Q (some (.int ((ij_pc ((hl 23 3) &&& (hl 23 4)))))) (ij_SH, (ij_ui hi 0 0 0), hl, ij_HR)) : ij_R xt 258 0 [some (.ref 0)] [] (ij_SH, hi, hl, ij_HR) Q := by
  refine ij_call 4 189 [some (.ref 23)] [.ref 0] 8 [some (.ref 0)] (ij_SH, hi, hl, ij_HR) (fun n => rfl) (s189_23  ?_)
  -- back
  refine ij_call 1 90 [some (.ref 0), some (.int ((ij_pc ((hl 23 3) &&& (hl 23 4)))))] [] 11 [some (.ref 0)] (ij_SH, hi, hl, ij_HR) (fun n => rfl) (s90_0 (ij_pc ((hl 23 3) &&& (hl 23 4))) ?_)
  -- back
  exact ij_ret 1 (some (.int ((ij_pc ((hl 23 3) &&& (hl 23 4)))))) (ij_SH, (ij_ui hi 0 0 0), hl, ij_HR) (fun n => rfl) (q0)
set_option maxRecDepth 10000 in
-- java/lang/Math.max(II)I
theorem s270 {xt : ij_X} {hi : Nat → Nat → Int32} {hl : Nat → Nat → Int64} {Q : Option Value → ij_H → Prop} (a0 : Int32) (a1 : Int32) (q0 : (a0 < a1) → Q (some (.int a1)) (ij_SH, hi, hl, ij_HR)) (q1 : ¬ (a0 < a1) → Q (some (.int a0)) (ij_SH, hi, hl, ij_HR)) : ij_R xt 270 0 [some (.int a0), some (.int a1)] [] (ij_SH, hi, hl, ij_HR) Q := by
  refine ij_br 3 (a0 < a1) 9 5 [some (.int a0), some (.int a1)] [] (ij_SH, hi, hl, ij_HR) (fun n => rfl) (fun c1 => ?_) (fun c1 => ?_)
  · skip
    exact ij_ret 2 (some (.int a1)) (ij_SH, hi, hl, ij_HR) (fun n => rfl) (q0 c1)
  · skip
    exact ij_ret 3 (some (.int a0)) (ij_SH, hi, hl, ij_HR) (fun n => rfl) (q1 c1)
set_option maxRecDepth 10000 in
-- ScaleForge$Walk.apart(II)I
theorem s276_35 {xt : ij_X} {hi : Nat → Nat → Int32} {hl : Nat → Nat → Int64} {Q : Option Value → ij_H → Prop} (a0 : Int32) (a1 : Int32) (q0 : (a0 < 0) → (((hi 35 4) - 0) < 0) → Q (some (.int (((hi 35 4) - 0)))) (ij_SH, hi, hl, ij_HR)) (q1 : (a0 < 0) → ¬ (((hi 35 4) - 0) < 0) → Q (some (.int (0))) (ij_SH, hi, hl, ij_HR)) (q2 : ¬ (a0 < 0) → (7 ≤ a0) → (((hi 35 4) - 0) < 0) → Q (some (.int (((hi 35 4) - 0)))) (ij_SH, hi, hl, ij_HR)) (q3 : ¬ (a0 < 0) → (7 ≤ a0) → ¬ (((hi 35 4) - 0) < 0) → Q (some (.int (0))) (ij_SH, hi, hl, ij_HR)) (q4 : ¬ (a0 < 0) → ¬ (7 ≤ a0) → (a1 < 0) → (((hi 35 4) - 0) < 0) → Q (some (.int (((hi 35 4) - 0)))) (ij_SH, hi, hl, ij_HR)) (q5 : ¬ (a0 < 0) → ¬ (7 ≤ a0) → (a1 < 0) → ¬ (((hi 35 4) - 0) < 0) → Q (some (.int (0))) (ij_SH, hi, hl, ij_HR)) (q6 : ¬ (a0 < 0) → ¬ (7 ≤ a0) → ¬ (a1 < 0) → (7 ≤ a1) → (((hi 35 4) - 0) < 0) → Q (some (.int (((hi 35 4) - 0)))) (ij_SH, hi, hl, ij_HR)) (q7 : ¬ (a0 < 0) → ¬ (7 ≤ a0) → ¬ (a1 < 0) → (7 ≤ a1) → ¬ (((hi 35 4) - 0) < 0) → Q (some (.int (0))) (ij_SH, hi, hl, ij_HR)) (q8 : ¬ (a0 < 0) → ¬ (7 ≤ a0) → ¬ (a1 < 0) → ¬ (7 ≤ a1) → (0 ≤ ((hi 36 (a0).toNatClampNeg) - (hi 36 (a1).toNatClampNeg))) → (((hi 35 4) - ((hi 36 (a0).toNatClampNeg) - (hi 36 (a1).toNatClampNeg))) < ((hi 36 (a0).toNatClampNeg) - (hi 36 (a1).toNatClampNeg))) → Q (some (.int (((hi 35 4) - ((hi 36 (a0).toNatClampNeg) - (hi 36 (a1).toNatClampNeg)))))) (ij_SH, hi, hl, ij_HR)) (q9 : ¬ (a0 < 0) → ¬ (7 ≤ a0) → ¬ (a1 < 0) → ¬ (7 ≤ a1) → (0 ≤ ((hi 36 (a0).toNatClampNeg) - (hi 36 (a1).toNatClampNeg))) → ¬ (((hi 35 4) - ((hi 36 (a0).toNatClampNeg) - (hi 36 (a1).toNatClampNeg))) < ((hi 36 (a0).toNatClampNeg) - (hi 36 (a1).toNatClampNeg))) → Q (some (.int (((hi 36 (a0).toNatClampNeg) - (hi 36 (a1).toNatClampNeg))))) (ij_SH, hi, hl, ij_HR)) (q10 : ¬ (a0 < 0) → ¬ (7 ≤ a0) → ¬ (a1 < 0) → ¬ (7 ≤ a1) → ¬ (0 ≤ ((hi 36 (a0).toNatClampNeg) - (hi 36 (a1).toNatClampNeg))) → (((hi 35 4) - (-((hi 36 (a0).toNatClampNeg) - (hi 36 (a1).toNatClampNeg)))) < (-((hi 36 (a0).toNatClampNeg) - (hi 36 (a1).toNatClampNeg)))) → Q (some (.int (((hi 35 4) - (-((hi 36 (a0).toNatClampNeg) - (hi 36 (a1).toNatClampNeg))))))) (ij_SH, hi, hl, ij_HR)) (q11 : ¬ (a0 < 0) → ¬ (7 ≤ a0) → ¬ (a1 < 0) → ¬ (7 ≤ a1) → ¬ (0 ≤ ((hi 36 (a0).toNatClampNeg) - (hi 36 (a1).toNatClampNeg))) → ¬ (((hi 35 4) - (-((hi 36 (a0).toNatClampNeg) - (hi 36 (a1).toNatClampNeg)))) < (-((hi 36 (a0).toNatClampNeg) - (hi 36 (a1).toNatClampNeg)))) → Q (some (.int ((-((hi 36 (a0).toNatClampNeg) - (hi 36 (a1).toNatClampNeg)))))) (ij_SH, hi, hl, ij_HR)) : ij_R xt 276 0 [some (.ref 35), some (.int a0), some (.int a1), none, none] [] (ij_SH, hi, hl, ij_HR) Q := by
  refine ij_br 2 (a0 < 0) 24 4 [some (.ref 35), some (.int a0), some (.int a1), none, none] [] (ij_SH, hi, hl, ij_HR) (fun n => rfl) (fun c1 => ?_) (fun c1 => ?_)
  · skip
    refine ij_call 12 95 [some (.int (0)), some (.int (((hi 35 4) - 0)))] [] 64 [some (.ref 35), some (.int a0), some (.int a1), some (.int (0)), some (.int (0))] (ij_SH, hi, hl, ij_HR) (fun n => rfl) (s95 0 ((hi 35 4) - 0) (fun c2 => ?_) (fun c3 => ?_))
    · skip
      exact ij_ret 1 (some (.int (((hi 35 4) - 0)))) (ij_SH, hi, hl, ij_HR) (fun n => rfl) (q0 c1 c2)
    · skip
      exact ij_ret 1 (some (.int (0))) (ij_SH, hi, hl, ij_HR) (fun n => rfl) (q1 c1 c3)
  · skip
    refine ij_br 3 (7 ≤ a0) 24 10 [some (.ref 35), some (.int a0), some (.int a1), none, none] [] (ij_SH, hi, hl, ij_HR) (fun n => rfl) (fun c4 => ?_) (fun c4 => ?_)
    · skip
      refine ij_call 12 95 [some (.int (0)), some (.int (((hi 35 4) - 0)))] [] 64 [some (.ref 35), some (.int a0), some (.int a1), some (.int (0)), some (.int (0))] (ij_SH, hi, hl, ij_HR) (fun n => rfl) (s95 0 ((hi 35 4) - 0) (fun c5 => ?_) (fun c6 => ?_))
      · skip
        exact ij_ret 1 (some (.int (((hi 35 4) - 0)))) (ij_SH, hi, hl, ij_HR) (fun n => rfl) (q2 c1 c4 c5)
      · skip
        exact ij_ret 1 (some (.int (0))) (ij_SH, hi, hl, ij_HR) (fun n => rfl) (q3 c1 c4 c6)
    · skip
      refine ij_br 2 (a1 < 0) 24 14 [some (.ref 35), some (.int a0), some (.int a1), none, none] [] (ij_SH, hi, hl, ij_HR) (fun n => rfl) (fun c7 => ?_) (fun c7 => ?_)
      · skip
        refine ij_call 12 95 [some (.int (0)), some (.int (((hi 35 4) - 0)))] [] 64 [some (.ref 35), some (.int a0), some (.int a1), some (.int (0)), some (.int (0))] (ij_SH, hi, hl, ij_HR) (fun n => rfl) (s95 0 ((hi 35 4) - 0) (fun c8 => ?_) (fun c9 => ?_))
        · skip
          exact ij_ret 1 (some (.int (((hi 35 4) - 0)))) (ij_SH, hi, hl, ij_HR) (fun n => rfl) (q4 c1 c4 c7 c8)
        · skip
          exact ij_ret 1 (some (.int (0))) (ij_SH, hi, hl, ij_HR) (fun n => rfl) (q5 c1 c4 c7 c9)
      · skip
        refine ij_br 3 (7 ≤ a1) 24 20 [some (.ref 35), some (.int a0), some (.int a1), none, none] [] (ij_SH, hi, hl, ij_HR) (fun n => rfl) (fun c10 => ?_) (fun c10 => ?_)
        · skip
          refine ij_call 12 95 [some (.int (0)), some (.int (((hi 35 4) - 0)))] [] 64 [some (.ref 35), some (.int a0), some (.int a1), some (.int (0)), some (.int (0))] (ij_SH, hi, hl, ij_HR) (fun n => rfl) (s95 0 ((hi 35 4) - 0) (fun c11 => ?_) (fun c12 => ?_))
          · skip
            exact ij_ret 1 (some (.int (((hi 35 4) - 0)))) (ij_SH, hi, hl, ij_HR) (fun n => rfl) (q6 c1 c4 c7 c10 c11)
          · skip
            exact ij_ret 1 (some (.int (0))) (ij_SH, hi, hl, ij_HR) (fun n => rfl) (q7 c1 c4 c7 c10 c12)
        · skip
          refine ij_go 8 35 [some (.ref 35), some (.int a0), some (.int a1), some (.int (1)), none] [.int a0, .ref 36] (ij_SH, hi, hl, ij_HR) (fun n => rfl) ?_
          refine ij_ial rfl rfl rfl (ij_bd c1 (Int32.not_le.mp c4) (by decide)) ?_
          refine ij_go 3 41 [some (.ref 35), some (.int a0), some (.int a1), some (.int (1)), none] [.int a1, .ref 36, .int ((hi 36 (a0).toNatClampNeg))] (ij_SH, hi, hl, ij_HR) (fun n => rfl) ?_
          refine ij_ial rfl rfl rfl (ij_bd c7 (Int32.not_le.mp c10) (by decide)) ?_
          refine ij_call 2 239 [some (.int (((hi 36 (a0).toNatClampNeg) - (hi 36 (a1).toNatClampNeg))))] [] 46 [some (.ref 35), some (.int a0), some (.int a1), some (.int (1)), none] (ij_SH, hi, hl, ij_HR) (fun n => rfl) (s239 ((hi 36 (a0).toNatClampNeg) - (hi 36 (a1).toNatClampNeg)) (fun c13 => ?_) (fun c14 => ?_))
          · skip
            refine ij_call 8 95 [some (.int (((hi 36 (a0).toNatClampNeg) - (hi 36 (a1).toNatClampNeg)))), some (.int (((hi 35 4) - ((hi 36 (a0).toNatClampNeg) - (hi 36 (a1).toNatClampNeg)))))] [] 64 [some (.ref 35), some (.int a0), some (.int a1), some (.int (1)), some (.int (((hi 36 (a0).toNatClampNeg) - (hi 36 (a1).toNatClampNeg))))] (ij_SH, hi, hl, ij_HR) (fun n => rfl) (s95 ((hi 36 (a0).toNatClampNeg) - (hi 36 (a1).toNatClampNeg)) ((hi 35 4) - ((hi 36 (a0).toNatClampNeg) - (hi 36 (a1).toNatClampNeg))) (fun c15 => ?_) (fun c16 => ?_))
            · skip
              exact ij_ret 1 (some (.int (((hi 35 4) - ((hi 36 (a0).toNatClampNeg) - (hi 36 (a1).toNatClampNeg)))))) (ij_SH, hi, hl, ij_HR) (fun n => rfl) (q8 c1 c4 c7 c10 c13 c15)
            · skip
              exact ij_ret 1 (some (.int (((hi 36 (a0).toNatClampNeg) - (hi 36 (a1).toNatClampNeg))))) (ij_SH, hi, hl, ij_HR) (fun n => rfl) (q9 c1 c4 c7 c10 c13 c16)
          · skip
            refine ij_call 8 95 [some (.int ((-((hi 36 (a0).toNatClampNeg) - (hi 36 (a1).toNatClampNeg))))), some (.int (((hi 35 4) - (-((hi 36 (a0).toNatClampNeg) - (hi 36 (a1).toNatClampNeg))))))] [] 64 [some (.ref 35), some (.int a0), some (.int a1), some (.int (1)), some (.int ((-((hi 36 (a0).toNatClampNeg) - (hi 36 (a1).toNatClampNeg)))))] (ij_SH, hi, hl, ij_HR) (fun n => rfl) (s95 (-((hi 36 (a0).toNatClampNeg) - (hi 36 (a1).toNatClampNeg))) ((hi 35 4) - (-((hi 36 (a0).toNatClampNeg) - (hi 36 (a1).toNatClampNeg)))) (fun c17 => ?_) (fun c18 => ?_))
            · skip
              exact ij_ret 1 (some (.int (((hi 35 4) - (-((hi 36 (a0).toNatClampNeg) - (hi 36 (a1).toNatClampNeg))))))) (ij_SH, hi, hl, ij_HR) (fun n => rfl) (q10 c1 c4 c7 c10 c14 c17)
            · skip
              exact ij_ret 1 (some (.int ((-((hi 36 (a0).toNatClampNeg) - (hi 36 (a1).toNatClampNeg)))))) (ij_SH, hi, hl, ij_HR) (fun n => rfl) (q11 c1 c4 c7 c10 c14 c18)
set_option maxRecDepth 10000 in
-- ScaleForge$Walk.getToGo(II)I
theorem s277_35 {xt : ij_X} {hi : Nat → Nat → Int32} {hl : Nat → Nat → Int64} {Q : Option Value → ij_H → Prop} (a0 : Int32) (a1 : Int32) (q0 : (((a0 * 7) + a1) < 0) → Q (some (.int (0))) (ij_SH, hi, hl, ij_HR)) (q1 : ¬ (((a0 * 7) + a1) < 0) → (896 ≤ ((a0 * 7) + a1)) → Q (some (.int (0))) (ij_SH, hi, hl, ij_HR)) (q2 : ¬ (((a0 * 7) + a1) < 0) → ¬ (896 ≤ ((a0 * 7) + a1)) → Q (some (.int ((hi 38 (((a0 * 7) + a1)).toNatClampNeg)))) (ij_SH, hi, hl, ij_HR)) : ij_R xt 277 0 [some (.ref 35), some (.int a0), some (.int a1), none] [] (ij_SH, hi, hl, ij_HR) Q := by
  refine ij_br 8 (((a0 * 7) + a1) < 0) 29 11 [some (.ref 35), some (.int a0), some (.int a1), some (.int (((a0 * 7) + a1)))] [] (ij_SH, hi, hl, ij_HR) (fun n => rfl) (fun c1 => ?_) (fun c1 => ?_)
  · skip
    exact ij_ret 2 (some (.int (0))) (ij_SH, hi, hl, ij_HR) (fun n => rfl) (q0 c1)
  · skip
    refine ij_br 5 (896 ≤ ((a0 * 7) + a1)) 29 20 [some (.ref 35), some (.int a0), some (.int a1), some (.int (((a0 * 7) + a1)))] [] (ij_SH, hi, hl, ij_HR) (fun n => rfl) (fun c2 => ?_) (fun c2 => ?_)
    · skip
      exact ij_ret 2 (some (.int (0))) (ij_SH, hi, hl, ij_HR) (fun n => rfl) (q1 c1 c2)
    · skip
      refine ij_go 3 25 [some (.ref 35), some (.int a0), some (.int a1), some (.int (((a0 * 7) + a1)))] [.int (((a0 * 7) + a1)), .ref 38] (ij_SH, hi, hl, ij_HR) (fun n => rfl) ?_
      refine ij_ial rfl rfl rfl (ij_bd c1 (Int32.not_le.mp c2) (by decide)) ?_
      exact ij_ret 2 (some (.int ((hi 38 (((a0 * 7) + a1)).toNatClampNeg)))) (ij_SH, hi, hl, ij_HR) (fun n => rfl) (q2 c1 c2)
set_option maxRecDepth 10000 in
-- ScaleForge$Walk.setToGo(III)V
theorem s280_35 {xt : ij_X} {hi : Nat → Nat → Int32} {hl : Nat → Nat → Int64} {Q : Option Value → ij_H → Prop} (a0 : Int32) (a1 : Int32) (a2 : Int32) (q0 : (((a0 * 7) + a1) < 0) → Q (none) (ij_SH, hi, hl, ij_HR)) (q1 : ¬ (((a0 * 7) + a1) < 0) → (896 ≤ ((a0 * 7) + a1)) → Q (none) (ij_SH, hi, hl, ij_HR)) (q2 : ¬ (((a0 * 7) + a1) < 0) → ¬ (896 ≤ ((a0 * 7) + a1)) → Q (none) (ij_SH, (ij_ui hi 38 (((a0 * 7) + a1)).toNatClampNeg a2), hl, ij_HR)) : ij_R xt 280 0 [some (.ref 35), some (.int a0), some (.int a1), some (.int a2), none] [] (ij_SH, hi, hl, ij_HR) Q := by
  refine ij_br 8 (((a0 * 7) + a1) < 0) 31 13 [some (.ref 35), some (.int a0), some (.int a1), some (.int a2), some (.int (((a0 * 7) + a1)))] [] (ij_SH, hi, hl, ij_HR) (fun n => rfl) (fun c1 => ?_) (fun c1 => ?_)
  · skip
    exact ij_ret 1 (none) (ij_SH, hi, hl, ij_HR) (fun n => rfl) (q0 c1)
  · skip
    refine ij_br 5 (896 ≤ ((a0 * 7) + a1)) 31 23 [some (.ref 35), some (.int a0), some (.int a1), some (.int a2), some (.int (((a0 * 7) + a1)))] [] (ij_SH, hi, hl, ij_HR) (fun n => rfl) (fun c2 => ?_) (fun c2 => ?_)
    · skip
      exact ij_ret 1 (none) (ij_SH, hi, hl, ij_HR) (fun n => rfl) (q1 c1 c2)
    · skip
      refine ij_go 4 30 [some (.ref 35), some (.int a0), some (.int a1), some (.int a2), some (.int (((a0 * 7) + a1)))] [.int a2, .int (((a0 * 7) + a1)), .ref 38] (ij_SH, hi, hl, ij_HR) (fun n => rfl) ?_
      refine ij_ias rfl rfl rfl (ij_bd c1 (Int32.not_le.mp c2) (by decide)) ?_
      exact ij_ret 1 (none) (ij_SH, (ij_ui hi 38 (((a0 * 7) + a1)).toNatClampNeg a2), hl, ij_HR) (fun n => rfl) (q2 c1 c2)
set_option maxRecDepth 10000 in
-- ScaleForge$Walk.length()I
theorem s283_35 {xt : ij_X} {hi : Nat → Nat → Int32} {hl : Nat → Nat → Int64} {Q : Option Value → ij_H → Prop} (q0 : (2 ≤ (hi 35 3)) → (((1 * 7) + 0) < 0) → Q (some (.int (0))) (ij_SH, hi, hl, ij_HR)) (q1 : (2 ≤ (hi 35 3)) → ¬ (((1 * 7) + 0) < 0) → (896 ≤ ((1 * 7) + 0)) → Q (some (.int (0))) (ij_SH, hi, hl, ij_HR)) (q2 : (2 ≤ (hi 35 3)) → ¬ (((1 * 7) + 0) < 0) → ¬ (896 ≤ ((1 * 7) + 0)) → Q (some (.int ((hi 38 (((1 * 7) + 0)).toNatClampNeg)))) (ij_SH, hi, hl, ij_HR)) (q3 : ¬ (2 ≤ (hi 35 3)) → Q (some (.int (0))) (ij_SH, hi, hl, ij_HR)) : ij_R xt 283 0 [some (.ref 35)] [] (ij_SH, hi, hl, ij_HR) Q := by
  refine ij_br 4 (2 ≤ (hi 35 3)) 12 8 [some (.ref 35)] [] (ij_SH, hi, hl, ij_HR) (fun n => rfl) (fun c1 => ?_) (fun c1 => ?_)
  · skip
    refine ij_call 4 277 [some (.ref 35), some (.int (1)), some (.int (0)), none] [] 18 [some (.ref 35)] (ij_SH, hi, hl, ij_HR) (fun n => rfl) (s277_35 1 0 (fun c2 => ?_) (fun c3 c4 => ?_) (fun c5 c6 => ?_))
    · skip
      exact ij_ret 1 (some (.int (0))) (ij_SH, hi, hl, ij_HR) (fun n => rfl) (q0 c1 c2)
    · skip
      exact ij_ret 1 (some (.int (0))) (ij_SH, hi, hl, ij_HR) (fun n => rfl) (q1 c1 c3 c4)
    · skip
      exact ij_ret 1 (some (.int ((hi 38 (((1 * 7) + 0)).toNatClampNeg)))) (ij_SH, hi, hl, ij_HR) (fun n => rfl) (q2 c1 c5 c6)
  · skip
    exact ij_ret 3 (some (.int (0))) (ij_SH, hi, hl, ij_HR) (fun n => rfl) (q3 c1)
set_option maxRecDepth 10000 in
-- ScaleForge$Walk.stopAt(I)I
theorem s289_35 {xt : ij_X} {hi : Nat → Nat → Int32} {hl : Nat → Nat → Int64} {Q : Option Value → ij_H → Prop} (a0 : Int32) (q0 : (a0 < 0) → Q (some (.int ((-1)))) (ij_SH, hi, hl, ij_HR)) (q1 : ¬ (a0 < 0) → ((hi 35 3) ≤ a0) → Q (some (.int ((-1)))) (ij_SH, hi, hl, ij_HR)) (q2 : ¬ (a0 < 0) → ¬ ((hi 35 3) ≤ a0) → (7 ≤ a0) → Q (some (.int ((-1)))) (ij_SH, hi, hl, ij_HR)) (q3 : ¬ (a0 < 0) → ¬ ((hi 35 3) ≤ a0) → ¬ (7 ≤ a0) → Q (some (.int ((hi 37 (a0).toNatClampNeg)))) (ij_SH, hi, hl, ij_HR)) : ij_R xt 289 0 [some (.ref 35), some (.int a0)] [] (ij_SH, hi, hl, ij_HR) Q := by
  refine ij_br 2 (a0 < 0) 30 4 [some (.ref 35), some (.int a0)] [] (ij_SH, hi, hl, ij_HR) (fun n => rfl) (fun c1 => ?_) (fun c1 => ?_)
  · skip
    exact ij_ret 2 (some (.int ((-1)))) (ij_SH, hi, hl, ij_HR) (fun n => rfl) (q0 c1)
  · skip
    refine ij_br 4 ((hi 35 3) ≤ a0) 30 12 [some (.ref 35), some (.int a0)] [] (ij_SH, hi, hl, ij_HR) (fun n => rfl) (fun c2 => ?_) (fun c2 => ?_)
    · skip
      exact ij_ret 2 (some (.int ((-1)))) (ij_SH, hi, hl, ij_HR) (fun n => rfl) (q1 c1 c2)
    · skip
      refine ij_br 5 (7 ≤ a0) 30 21 [some (.ref 35), some (.int a0)] [] (ij_SH, hi, hl, ij_HR) (fun n => rfl) (fun c3 => ?_) (fun c3 => ?_)
      · skip
        exact ij_ret 2 (some (.int ((-1)))) (ij_SH, hi, hl, ij_HR) (fun n => rfl) (q2 c1 c2 c3)
      · skip
        refine ij_go 3 26 [some (.ref 35), some (.int a0)] [.int a0, .ref 37] (ij_SH, hi, hl, ij_HR) (fun n => rfl) ?_
        refine ij_ial rfl rfl rfl (ij_bd c1 (Int32.not_le.mp c3) (by decide)) ?_
        exact ij_ret 2 (some (.int ((hi 37 (a0).toNatClampNeg)))) (ij_SH, hi, hl, ij_HR) (fun n => rfl) (q3 c1 c2 c3)
set_option maxRecDepth 10000 in
-- ScaleForge$Life.comesToStep()Z
theorem s322_40 {xt : ij_X} {hi : Nat → Nat → Int32} {hl : Nat → Nat → Int64} {Q : Option Value → ij_H → Prop} (q0 : ((hi 40 3) < 0) → Q (some (.int (0))) (ij_SH, (ij_ui (ij_ui (ij_ui hi 40 14 0) 40 4 1) 40 9 ((hi 40 9) + 0)), hl, ij_HR)) (q1 : ¬ ((hi 40 3) < 0) → ((hi 26 4) ≤ (hi 40 3)) → Q (some (.int (0))) (ij_SH, (ij_ui (ij_ui (ij_ui hi 40 14 0) 40 4 1) 40 9 ((hi 40 9) + 0)), hl, ij_HR)) (q2 : ¬ ((hi 40 3) < 0) → ¬ ((hi 26 4) ≤ (hi 40 3)) → (30 ≤ (hi 40 3)) → Q (some (.int (0))) (ij_SH, (ij_ui (ij_ui (ij_ui hi 40 14 0) 40 4 1) 40 9 ((hi 40 9) + 0)), hl, ij_HR)) (q3 : ¬ ((hi 40 3) < 0) → ¬ ((hi 26 4) ≤ (hi 40 3)) → ¬ (30 ≤ (hi 40 3)) → ((hi 40 9) < 300) → Q (some (.int (1))) (ij_SH, (ij_ui (ij_ui (ij_ui hi 40 14 0) 40 4 0) 40 9 ((hi 40 9) + 1)), hl, ij_HR)) (q4 : ¬ ((hi 40 3) < 0) → ¬ ((hi 26 4) ≤ (hi 40 3)) → ¬ (30 ≤ (hi 40 3)) → ¬ ((hi 40 9) < 300) → Q (some (.int (0))) (ij_SH, (ij_ui (ij_ui (ij_ui hi 40 14 1) 40 4 1) 40 9 ((hi 40 9) + 0)), hl, ij_HR)) : ij_R xt 322 0 [some (.ref 40), none] [] (ij_SH, hi, hl, ij_HR) Q := by
  refine ij_call 5 118 [some (.ref 26), some (.int ((hi 40 3)))] [] 11 [some (.ref 40), none] (ij_SH, hi, hl, ij_HR) (fun n => rfl) (s118_26 (hi 40 3) (fun c1 => ?_) (fun c2 c3 => ?_) (fun c4 c5 c6 => ?_) (fun c7 c8 c9 => ?_))
  · skip
    exact ij_ret 27 (some (.int (0))) (ij_SH, (ij_ui (ij_ui (ij_ui hi 40 14 0) 40 4 1) 40 9 ((hi 40 9) + 0)), hl, ij_HR) (fun n => rfl) (q0 c1)
  · skip
    exact ij_ret 27 (some (.int (0))) (ij_SH, (ij_ui (ij_ui (ij_ui hi 40 14 0) 40 4 1) 40 9 ((hi 40 9) + 0)), hl, ij_HR) (fun n => rfl) (q1 c2 c3)
  · skip
    exact ij_ret 27 (some (.int (0))) (ij_SH, (ij_ui (ij_ui (ij_ui hi 40 14 0) 40 4 1) 40 9 ((hi 40 9) + 0)), hl, ij_HR) (fun n => rfl) (q2 c4 c5 c6)
  · skip
    refine ij_br 8 ((hi 40 9) < 300) 31 27 [some (.ref 40), some (.int (1))] [.ref 40] (ij_SH, hi, hl, ij_HR) (fun n => rfl) (fun c10 => ?_) (fun c10 => ?_)
    · skip
      exact ij_ret 25 (some (.int (1))) (ij_SH, (ij_ui (ij_ui (ij_ui hi 40 14 0) 40 4 0) 40 9 ((hi 40 9) + 1)), hl, ij_HR) (fun n => rfl) (q3 c7 c8 c9 c10)
    · skip
      exact ij_ret 27 (some (.int (0))) (ij_SH, (ij_ui (ij_ui (ij_ui hi 40 14 1) 40 4 1) 40 9 ((hi 40 9) + 0)), hl, ij_HR) (fun n => rfl) (q4 c7 c8 c9 c10)
set_option maxRecDepth 10000 in
-- ScaleForge$Life.comesToStep()Z
theorem s322_47 {xt : ij_X} {hi : Nat → Nat → Int32} {hl : Nat → Nat → Int64} {Q : Option Value → ij_H → Prop} (q0 : ((hi 47 3) < 0) → Q (some (.int (0))) (ij_SH, (ij_ui (ij_ui (ij_ui hi 47 14 0) 47 4 1) 47 9 ((hi 47 9) + 0)), hl, ij_HR)) (q1 : ¬ ((hi 47 3) < 0) → ((hi 26 4) ≤ (hi 47 3)) → Q (some (.int (0))) (ij_SH, (ij_ui (ij_ui (ij_ui hi 47 14 0) 47 4 1) 47 9 ((hi 47 9) + 0)), hl, ij_HR)) (q2 : ¬ ((hi 47 3) < 0) → ¬ ((hi 26 4) ≤ (hi 47 3)) → (30 ≤ (hi 47 3)) → Q (some (.int (0))) (ij_SH, (ij_ui (ij_ui (ij_ui hi 47 14 0) 47 4 1) 47 9 ((hi 47 9) + 0)), hl, ij_HR)) (q3 : ¬ ((hi 47 3) < 0) → ¬ ((hi 26 4) ≤ (hi 47 3)) → ¬ (30 ≤ (hi 47 3)) → ((hi 47 9) < 300) → Q (some (.int (1))) (ij_SH, (ij_ui (ij_ui (ij_ui hi 47 14 0) 47 4 0) 47 9 ((hi 47 9) + 1)), hl, ij_HR)) (q4 : ¬ ((hi 47 3) < 0) → ¬ ((hi 26 4) ≤ (hi 47 3)) → ¬ (30 ≤ (hi 47 3)) → ¬ ((hi 47 9) < 300) → Q (some (.int (0))) (ij_SH, (ij_ui (ij_ui (ij_ui hi 47 14 1) 47 4 1) 47 9 ((hi 47 9) + 0)), hl, ij_HR)) : ij_R xt 322 0 [some (.ref 47), none] [] (ij_SH, hi, hl, ij_HR) Q := by
  refine ij_call 5 118 [some (.ref 26), some (.int ((hi 47 3)))] [] 11 [some (.ref 47), none] (ij_SH, hi, hl, ij_HR) (fun n => rfl) (s118_26 (hi 47 3) (fun c1 => ?_) (fun c2 c3 => ?_) (fun c4 c5 c6 => ?_) (fun c7 c8 c9 => ?_))
  · skip
    exact ij_ret 27 (some (.int (0))) (ij_SH, (ij_ui (ij_ui (ij_ui hi 47 14 0) 47 4 1) 47 9 ((hi 47 9) + 0)), hl, ij_HR) (fun n => rfl) (q0 c1)
  · skip
    exact ij_ret 27 (some (.int (0))) (ij_SH, (ij_ui (ij_ui (ij_ui hi 47 14 0) 47 4 1) 47 9 ((hi 47 9) + 0)), hl, ij_HR) (fun n => rfl) (q1 c2 c3)
  · skip
    exact ij_ret 27 (some (.int (0))) (ij_SH, (ij_ui (ij_ui (ij_ui hi 47 14 0) 47 4 1) 47 9 ((hi 47 9) + 0)), hl, ij_HR) (fun n => rfl) (q2 c4 c5 c6)
  · skip
    refine ij_br 8 ((hi 47 9) < 300) 31 27 [some (.ref 47), some (.int (1))] [.ref 47] (ij_SH, hi, hl, ij_HR) (fun n => rfl) (fun c10 => ?_) (fun c10 => ?_)
    · skip
      exact ij_ret 25 (some (.int (1))) (ij_SH, (ij_ui (ij_ui (ij_ui hi 47 14 0) 47 4 0) 47 9 ((hi 47 9) + 1)), hl, ij_HR) (fun n => rfl) (q3 c7 c8 c9 c10)
    · skip
      exact ij_ret 27 (some (.int (0))) (ij_SH, (ij_ui (ij_ui (ij_ui hi 47 14 1) 47 4 1) 47 9 ((hi 47 9) + 0)), hl, ij_HR) (fun n => rfl) (q4 c7 c8 c9 c10)
set_option maxRecDepth 10000 in
-- ScaleForge$Life.releaseOrMiss(I)V
theorem s324_40 {xt : ij_X} {hi : Nat → Nat → Int32} {hl : Nat → Nat → Int64} {Q : Option Value → ij_H → Prop} (a0 : Int32) (q0 : (a0 < 0) → Q (none) (ij_SH, (ij_ui (ij_ui hi 40 12 ((hi 40 12) + 0)) 40 10 ((hi 40 10) + 1)), hl, ij_HR)) (q1 : ¬ (a0 < 0) → (64 ≤ a0) → Q (none) (ij_SH, (ij_ui (ij_ui hi 40 12 ((hi 40 12) + 0)) 40 10 ((hi 40 10) + 1)), hl, ij_HR)) (q2 : ¬ (a0 < 0) → ¬ (64 ≤ a0) → ((lg_cmp ((((hl 23 3) : Int64).toUInt64 >>> ((a0 : Int32).toInt64.toUInt64 &&& Int64.toUInt64 63)).toInt64 &&& 1) 0) = 0) → Q (none) (ij_SH, (ij_ui (ij_ui hi 40 12 ((hi 40 12) + 0)) 40 10 ((hi 40 10) + 1)), hl, ij_HR)) (q3 : ¬ (a0 < 0) → ¬ (64 ≤ a0) → ¬ ((lg_cmp ((((hl 23 3) : Int64).toUInt64 >>> ((a0 : Int32).toInt64.toUInt64 &&& Int64.toUInt64 63)).toInt64 &&& 1) 0) = 0) → (a0 < 0) → Q (none) (ij_SH, (ij_ui (ij_ui hi 40 12 ((hi 40 12) + 1)) 40 10 ((hi 40 10) + 0)), (ij_ul hl 23 3 ((hl 23 3) &&& (0 ^^^ (Int64.ofNat 18446744073709551615)))), ij_HR)) (q4 : ¬ (a0 < 0) → ¬ (64 ≤ a0) → ¬ ((lg_cmp ((((hl 23 3) : Int64).toUInt64 >>> ((a0 : Int32).toInt64.toUInt64 &&& Int64.toUInt64 63)).toInt64 &&& 1) 0) = 0) → ¬ (a0 < 0) → (64 ≤ a0) → Q (none) (ij_SH, (ij_ui (ij_ui hi 40 12 ((hi 40 12) + 1)) 40 10 ((hi 40 10) + 0)), (ij_ul hl 23 3 ((hl 23 3) &&& (0 ^^^ (Int64.ofNat 18446744073709551615)))), ij_HR)) (q5 : ¬ (a0 < 0) → ¬ (64 ≤ a0) → ¬ ((lg_cmp ((((hl 23 3) : Int64).toUInt64 >>> ((a0 : Int32).toInt64.toUInt64 &&& Int64.toUInt64 63)).toInt64 &&& 1) 0) = 0) → ¬ (a0 < 0) → ¬ (64 ≤ a0) → Q (none) (ij_SH, (ij_ui (ij_ui hi 40 12 ((hi 40 12) + 1)) 40 10 ((hi 40 10) + 0)), (ij_ul hl 23 3 ((hl 23 3) &&& ((1 <<< ((a0 : Int32).toInt64 &&& 63)) ^^^ (Int64.ofNat 18446744073709551615)))), ij_HR)) : ij_R xt 324 0 [some (.ref 40), some (.int a0), none] [] (ij_SH, hi, hl, ij_HR) Q := by
  refine ij_call 4 182 [some (.ref 23), some (.int a0)] [] 8 [some (.ref 40), some (.int a0), none] (ij_SH, hi, hl, ij_HR) (fun n => rfl) (s182_23 a0 (fun c1 => ?_) (fun c2 c3 => ?_) (fun c4 c5 c6 => ?_) (fun c7 c8 c9 c10 => ?_) (fun c11 c12 c13 c14 c15 => ?_) (fun c16 c17 c18 c19 c20 => ?_))
  · skip
    exact ij_ret 18 (none) (ij_SH, (ij_ui (ij_ui hi 40 12 ((hi 40 12) + 0)) 40 10 ((hi 40 10) + 1)), hl, ij_HR) (fun n => rfl) (q0 c1)
  · skip
    exact ij_ret 18 (none) (ij_SH, (ij_ui (ij_ui hi 40 12 ((hi 40 12) + 0)) 40 10 ((hi 40 10) + 1)), hl, ij_HR) (fun n => rfl) (q1 c2 c3)
  · skip
    exact ij_ret 18 (none) (ij_SH, (ij_ui (ij_ui hi 40 12 ((hi 40 12) + 0)) 40 10 ((hi 40 10) + 1)), hl, ij_HR) (fun n => rfl) (q2 c4 c5 c6)
  · skip
    exact ij_ret 20 (none) (ij_SH, (ij_ui (ij_ui hi 40 12 ((hi 40 12) + 1)) 40 10 ((hi 40 10) + 0)), (ij_ul hl 23 3 ((hl 23 3) &&& (0 ^^^ (Int64.ofNat 18446744073709551615)))), ij_HR) (fun n => rfl) (q3 c7 c8 c9 c10)
  · skip
    exact ij_ret 20 (none) (ij_SH, (ij_ui (ij_ui hi 40 12 ((hi 40 12) + 1)) 40 10 ((hi 40 10) + 0)), (ij_ul hl 23 3 ((hl 23 3) &&& (0 ^^^ (Int64.ofNat 18446744073709551615)))), ij_HR) (fun n => rfl) (q4 c11 c12 c13 c14 c15)
  · skip
    exact ij_ret 20 (none) (ij_SH, (ij_ui (ij_ui hi 40 12 ((hi 40 12) + 1)) 40 10 ((hi 40 10) + 0)), (ij_ul hl 23 3 ((hl 23 3) &&& ((1 <<< ((a0 : Int32).toInt64 &&& 63)) ^^^ (Int64.ofNat 18446744073709551615)))), ij_HR) (fun n => rfl) (q5 c16 c17 c18 c19 c20)
set_option maxRecDepth 10000 in
-- ScaleForge$Life.releaseOrMiss(I)V
theorem s324_47 {xt : ij_X} {hi : Nat → Nat → Int32} {hl : Nat → Nat → Int64} {Q : Option Value → ij_H → Prop} (a0 : Int32) (q0 : (a0 < 0) → Q (none) (ij_SH, (ij_ui (ij_ui hi 47 12 ((hi 47 12) + 0)) 47 10 ((hi 47 10) + 1)), hl, ij_HR)) (q1 : ¬ (a0 < 0) → (64 ≤ a0) → Q (none) (ij_SH, (ij_ui (ij_ui hi 47 12 ((hi 47 12) + 0)) 47 10 ((hi 47 10) + 1)), hl, ij_HR)) (q2 : ¬ (a0 < 0) → ¬ (64 ≤ a0) → ((lg_cmp ((((hl 44 3) : Int64).toUInt64 >>> ((a0 : Int32).toInt64.toUInt64 &&& Int64.toUInt64 63)).toInt64 &&& 1) 0) = 0) → Q (none) (ij_SH, (ij_ui (ij_ui hi 47 12 ((hi 47 12) + 0)) 47 10 ((hi 47 10) + 1)), hl, ij_HR)) (q3 : ¬ (a0 < 0) → ¬ (64 ≤ a0) → ¬ ((lg_cmp ((((hl 44 3) : Int64).toUInt64 >>> ((a0 : Int32).toInt64.toUInt64 &&& Int64.toUInt64 63)).toInt64 &&& 1) 0) = 0) → (a0 < 0) → Q (none) (ij_SH, (ij_ui (ij_ui hi 47 12 ((hi 47 12) + 1)) 47 10 ((hi 47 10) + 0)), (ij_ul hl 44 3 ((hl 44 3) &&& (0 ^^^ (Int64.ofNat 18446744073709551615)))), ij_HR)) (q4 : ¬ (a0 < 0) → ¬ (64 ≤ a0) → ¬ ((lg_cmp ((((hl 44 3) : Int64).toUInt64 >>> ((a0 : Int32).toInt64.toUInt64 &&& Int64.toUInt64 63)).toInt64 &&& 1) 0) = 0) → ¬ (a0 < 0) → (64 ≤ a0) → Q (none) (ij_SH, (ij_ui (ij_ui hi 47 12 ((hi 47 12) + 1)) 47 10 ((hi 47 10) + 0)), (ij_ul hl 44 3 ((hl 44 3) &&& (0 ^^^ (Int64.ofNat 18446744073709551615)))), ij_HR)) (q5 : ¬ (a0 < 0) → ¬ (64 ≤ a0) → ¬ ((lg_cmp ((((hl 44 3) : Int64).toUInt64 >>> ((a0 : Int32).toInt64.toUInt64 &&& Int64.toUInt64 63)).toInt64 &&& 1) 0) = 0) → ¬ (a0 < 0) → ¬ (64 ≤ a0) → Q (none) (ij_SH, (ij_ui (ij_ui hi 47 12 ((hi 47 12) + 1)) 47 10 ((hi 47 10) + 0)), (ij_ul hl 44 3 ((hl 44 3) &&& ((1 <<< ((a0 : Int32).toInt64 &&& 63)) ^^^ (Int64.ofNat 18446744073709551615)))), ij_HR)) : ij_R xt 324 0 [some (.ref 47), some (.int a0), none] [] (ij_SH, hi, hl, ij_HR) Q := by
  refine ij_call 4 182 [some (.ref 44), some (.int a0)] [] 8 [some (.ref 47), some (.int a0), none] (ij_SH, hi, hl, ij_HR) (fun n => rfl) (s182_44 a0 (fun c1 => ?_) (fun c2 c3 => ?_) (fun c4 c5 c6 => ?_) (fun c7 c8 c9 c10 => ?_) (fun c11 c12 c13 c14 c15 => ?_) (fun c16 c17 c18 c19 c20 => ?_))
  · skip
    exact ij_ret 18 (none) (ij_SH, (ij_ui (ij_ui hi 47 12 ((hi 47 12) + 0)) 47 10 ((hi 47 10) + 1)), hl, ij_HR) (fun n => rfl) (q0 c1)
  · skip
    exact ij_ret 18 (none) (ij_SH, (ij_ui (ij_ui hi 47 12 ((hi 47 12) + 0)) 47 10 ((hi 47 10) + 1)), hl, ij_HR) (fun n => rfl) (q1 c2 c3)
  · skip
    exact ij_ret 18 (none) (ij_SH, (ij_ui (ij_ui hi 47 12 ((hi 47 12) + 0)) 47 10 ((hi 47 10) + 1)), hl, ij_HR) (fun n => rfl) (q2 c4 c5 c6)
  · skip
    exact ij_ret 20 (none) (ij_SH, (ij_ui (ij_ui hi 47 12 ((hi 47 12) + 1)) 47 10 ((hi 47 10) + 0)), (ij_ul hl 44 3 ((hl 44 3) &&& (0 ^^^ (Int64.ofNat 18446744073709551615)))), ij_HR) (fun n => rfl) (q3 c7 c8 c9 c10)
  · skip
    exact ij_ret 20 (none) (ij_SH, (ij_ui (ij_ui hi 47 12 ((hi 47 12) + 1)) 47 10 ((hi 47 10) + 0)), (ij_ul hl 44 3 ((hl 44 3) &&& (0 ^^^ (Int64.ofNat 18446744073709551615)))), ij_HR) (fun n => rfl) (q4 c11 c12 c13 c14 c15)
  · skip
    exact ij_ret 20 (none) (ij_SH, (ij_ui (ij_ui hi 47 12 ((hi 47 12) + 1)) 47 10 ((hi 47 10) + 0)), (ij_ul hl 44 3 ((hl 44 3) &&& ((1 <<< ((a0 : Int32).toInt64 &&& 63)) ^^^ (Int64.ofNat 18446744073709551615)))), ij_HR) (fun n => rfl) (q5 c16 c17 c18 c19 c20)
set_option maxRecDepth 10000 in
-- ScaleForge$Life.draw(I)I
theorem s326_40 {xt : ij_X} {hi : Nat → Nat → Int32} {hl : Nat → Nat → Int64} {Q : Option Value → ij_H → Prop} (a0 : Int32) (q0 : (a0 ≤ 0) → Q (some (.int (0))) (ij_SH, (ij_ui hi 40 2 ((((hi 40 2) * 3293) + 11527) - (((hi 40 2) * 3293) + 11527) / 65536 * 65536)), hl, ij_HR)) (q1 : ¬ (a0 ≤ 0) → Q (some (.int (((((((hi 40 2) * 3293) + 11527) - (((hi 40 2) * 3293) + 11527) / 65536 * 65536) / 8) - (((((hi 40 2) * 3293) + 11527) - (((hi 40 2) * 3293) + 11527) / 65536 * 65536) / 8) / a0 * a0)))) (ij_SH, (ij_ui hi 40 2 ((((hi 40 2) * 3293) + 11527) - (((hi 40 2) * 3293) + 11527) / 65536 * 65536)), hl, ij_HR)) : ij_R xt 326 0 [some (.ref 40), some (.int a0)] [] (ij_SH, hi, hl, ij_HR) Q := by
  refine ij_br 12 (a0 ≤ 0) 35 23 [some (.ref 40), some (.int a0)] [] (ij_SH, (ij_ui hi 40 2 ((((hi 40 2) * 3293) + 11527) - (((hi 40 2) * 3293) + 11527) / 65536 * 65536)), hl, ij_HR) (fun n => rfl) (fun c1 => ?_) (fun c1 => ?_)
  · skip
    exact ij_ret 2 (some (.int (0))) (ij_SH, (ij_ui hi 40 2 ((((hi 40 2) * 3293) + 11527) - (((hi 40 2) * 3293) + 11527) / 65536 * 65536)), hl, ij_HR) (fun n => rfl) (q0 c1)
  · skip
    refine ij_go 5 31 [some (.ref 40), some (.int a0)] [.int a0, .int ((((((hi 40 2) * 3293) + 11527) - (((hi 40 2) * 3293) + 11527) / 65536 * 65536) / 8))] (ij_SH, (ij_ui hi 40 2 ((((hi 40 2) * 3293) + 11527) - (((hi 40 2) * 3293) + 11527) / 65536 * 65536)), hl, ij_HR) (fun n => rfl) ?_
    refine ij_irem rfl (ij_nz1 c1) ?_
    exact ij_ret 2 (some (.int (((((((hi 40 2) * 3293) + 11527) - (((hi 40 2) * 3293) + 11527) / 65536 * 65536) / 8) - (((((hi 40 2) * 3293) + 11527) - (((hi 40 2) * 3293) + 11527) / 65536 * 65536) / 8) / a0 * a0)))) (ij_SH, (ij_ui hi 40 2 ((((hi 40 2) * 3293) + 11527) - (((hi 40 2) * 3293) + 11527) / 65536 * 65536)), hl, ij_HR) (fun n => rfl) (q1 c1)
set_option maxRecDepth 10000 in
-- ScaleForge$Life.draw(I)I
theorem s326_47 {xt : ij_X} {hi : Nat → Nat → Int32} {hl : Nat → Nat → Int64} {Q : Option Value → ij_H → Prop} (a0 : Int32) (q0 : (a0 ≤ 0) → Q (some (.int (0))) (ij_SH, (ij_ui hi 47 2 ((((hi 47 2) * 3293) + 11527) - (((hi 47 2) * 3293) + 11527) / 65536 * 65536)), hl, ij_HR)) (q1 : ¬ (a0 ≤ 0) → Q (some (.int (((((((hi 47 2) * 3293) + 11527) - (((hi 47 2) * 3293) + 11527) / 65536 * 65536) / 8) - (((((hi 47 2) * 3293) + 11527) - (((hi 47 2) * 3293) + 11527) / 65536 * 65536) / 8) / a0 * a0)))) (ij_SH, (ij_ui hi 47 2 ((((hi 47 2) * 3293) + 11527) - (((hi 47 2) * 3293) + 11527) / 65536 * 65536)), hl, ij_HR)) : ij_R xt 326 0 [some (.ref 47), some (.int a0)] [] (ij_SH, hi, hl, ij_HR) Q := by
  refine ij_br 12 (a0 ≤ 0) 35 23 [some (.ref 47), some (.int a0)] [] (ij_SH, (ij_ui hi 47 2 ((((hi 47 2) * 3293) + 11527) - (((hi 47 2) * 3293) + 11527) / 65536 * 65536)), hl, ij_HR) (fun n => rfl) (fun c1 => ?_) (fun c1 => ?_)
  · skip
    exact ij_ret 2 (some (.int (0))) (ij_SH, (ij_ui hi 47 2 ((((hi 47 2) * 3293) + 11527) - (((hi 47 2) * 3293) + 11527) / 65536 * 65536)), hl, ij_HR) (fun n => rfl) (q0 c1)
  · skip
    refine ij_go 5 31 [some (.ref 47), some (.int a0)] [.int a0, .int ((((((hi 47 2) * 3293) + 11527) - (((hi 47 2) * 3293) + 11527) / 65536 * 65536) / 8))] (ij_SH, (ij_ui hi 47 2 ((((hi 47 2) * 3293) + 11527) - (((hi 47 2) * 3293) + 11527) / 65536 * 65536)), hl, ij_HR) (fun n => rfl) ?_
    refine ij_irem rfl (ij_nz1 c1) ?_
    exact ij_ret 2 (some (.int (((((((hi 47 2) * 3293) + 11527) - (((hi 47 2) * 3293) + 11527) / 65536 * 65536) / 8) - (((((hi 47 2) * 3293) + 11527) - (((hi 47 2) * 3293) + 11527) / 65536 * 65536) / 8) / a0 * a0)))) (ij_SH, (ij_ui hi 47 2 ((((hi 47 2) * 3293) + 11527) - (((hi 47 2) * 3293) + 11527) / 65536 * 65536)), hl, ij_HR) (fun n => rfl) (q1 c1)
set_option maxRecDepth 10000 in
-- ScaleForgeModel.roots(I)Z
theorem s336_77 {xt : ij_X} {hi : Nat → Nat → Int32} {hl : Nat → Nat → Int64} {Q : Option Value → ij_H → Prop} (a0 : Int32) (q0 : (a0 < 0) → Q (some (.int (0))) (ij_SH, hi, hl, ij_HR)) (q1 : ¬ (a0 < 0) → ((hi 78 1) ≤ a0) → Q (some (.int (0))) (ij_SH, hi, hl, ij_HR)) (q2 : ¬ (a0 < 0) → ¬ ((hi 78 1) ≤ a0) → ((hi 78 5) = a0) → Q (some (.int (0))) (ij_SH, hi, hl, ij_HR)) (q3 : ¬ (a0 < 0) → ¬ ((hi 78 1) ≤ a0) → ¬ ((hi 78 5) = a0) → Q (some (.int (1))) (ij_SH, (ij_ui hi 78 5 a0), hl, ij_HR)) : ij_R xt 336 0 [some (.ref 77), some (.int a0)] [] (ij_SH, hi, hl, ij_HR) Q := by
  refine ij_call 3 158 [some (.ref 77), some (.int a0)] [] 5 [some (.ref 77), some (.int a0)] (ij_SH, hi, hl, ij_HR) (fun n => rfl) (s158_77 a0 (fun c1 => ?_) (fun c2 c3 => ?_) (fun c4 c5 => ?_))
  · skip
    exact ij_ret 3 (some (.int (0))) (ij_SH, hi, hl, ij_HR) (fun n => rfl) (q0 c1)
  · skip
    exact ij_ret 3 (some (.int (0))) (ij_SH, hi, hl, ij_HR) (fun n => rfl) (q1 c2 c3)
  · skip
    refine ij_br 7 ((hi 78 5) = a0) 18 20 [some (.ref 77), some (.int a0)] [] (ij_SH, hi, hl, ij_HR) (fun n => rfl) (fun c6 => ?_) (fun c6 => ?_)
    · skip
      exact ij_ret 2 (some (.int (0))) (ij_SH, hi, hl, ij_HR) (fun n => rfl) (q2 c4 c5 c6)
    · skip
      exact ij_ret 7 (some (.int (1))) (ij_SH, (ij_ui hi 78 5 a0), hl, ij_HR) (fun n => rfl) (q3 c4 c5 c6)
set_option maxRecDepth 10000 in
-- ScaleForge$Life.letGoAt(I)I
theorem s350_40 {xt : ij_X} {hi : Nat → Nat → Int32} {hl : Nat → Nat → Int64} {Q : Option Value → ij_H → Prop} (a0 : Int32) (q0 : (a0 < 0) → Q (some (.int ((-1)))) (ij_SH, hi, hl, ij_HR)) (q1 : ¬ (a0 < 0) → ((hi 40 13) ≤ a0) → Q (some (.int ((-1)))) (ij_SH, hi, hl, ij_HR)) (q2 : ¬ (a0 < 0) → ¬ ((hi 40 13) ≤ a0) → (60 ≤ a0) → Q (some (.int ((-1)))) (ij_SH, hi, hl, ij_HR)) (q3 : ¬ (a0 < 0) → ¬ ((hi 40 13) ≤ a0) → ¬ (60 ≤ a0) → Q (some (.int ((hi 43 (a0).toNatClampNeg)))) (ij_SH, hi, hl, ij_HR)) : ij_R xt 350 0 [some (.ref 40), some (.int a0)] [] (ij_SH, hi, hl, ij_HR) Q := by
  refine ij_br 2 (a0 < 0) 30 4 [some (.ref 40), some (.int a0)] [] (ij_SH, hi, hl, ij_HR) (fun n => rfl) (fun c1 => ?_) (fun c1 => ?_)
  · skip
    exact ij_ret 2 (some (.int ((-1)))) (ij_SH, hi, hl, ij_HR) (fun n => rfl) (q0 c1)
  · skip
    refine ij_br 4 ((hi 40 13) ≤ a0) 30 12 [some (.ref 40), some (.int a0)] [] (ij_SH, hi, hl, ij_HR) (fun n => rfl) (fun c2 => ?_) (fun c2 => ?_)
    · skip
      exact ij_ret 2 (some (.int ((-1)))) (ij_SH, hi, hl, ij_HR) (fun n => rfl) (q1 c1 c2)
    · skip
      refine ij_br 5 (60 ≤ a0) 30 21 [some (.ref 40), some (.int a0)] [] (ij_SH, hi, hl, ij_HR) (fun n => rfl) (fun c3 => ?_) (fun c3 => ?_)
      · skip
        exact ij_ret 2 (some (.int ((-1)))) (ij_SH, hi, hl, ij_HR) (fun n => rfl) (q2 c1 c2 c3)
      · skip
        refine ij_go 3 26 [some (.ref 40), some (.int a0)] [.int a0, .ref 43] (ij_SH, hi, hl, ij_HR) (fun n => rfl) ?_
        refine ij_ial rfl rfl rfl (ij_bd c1 (Int32.not_le.mp c3) (by decide)) ?_
        exact ij_ret 2 (some (.int ((hi 43 (a0).toNatClampNeg)))) (ij_SH, hi, hl, ij_HR) (fun n => rfl) (q3 c1 c2 c3)
set_option maxRecDepth 10000 in
-- ScaleForge$Life.letGoAt(I)I
theorem s350_47 {xt : ij_X} {hi : Nat → Nat → Int32} {hl : Nat → Nat → Int64} {Q : Option Value → ij_H → Prop} (a0 : Int32) (q0 : (a0 < 0) → Q (some (.int ((-1)))) (ij_SH, hi, hl, ij_HR)) (q1 : ¬ (a0 < 0) → ((hi 47 13) ≤ a0) → Q (some (.int ((-1)))) (ij_SH, hi, hl, ij_HR)) (q2 : ¬ (a0 < 0) → ¬ ((hi 47 13) ≤ a0) → (60 ≤ a0) → Q (some (.int ((-1)))) (ij_SH, hi, hl, ij_HR)) (q3 : ¬ (a0 < 0) → ¬ ((hi 47 13) ≤ a0) → ¬ (60 ≤ a0) → Q (some (.int ((hi 50 (a0).toNatClampNeg)))) (ij_SH, hi, hl, ij_HR)) : ij_R xt 350 0 [some (.ref 47), some (.int a0)] [] (ij_SH, hi, hl, ij_HR) Q := by
  refine ij_br 2 (a0 < 0) 30 4 [some (.ref 47), some (.int a0)] [] (ij_SH, hi, hl, ij_HR) (fun n => rfl) (fun c1 => ?_) (fun c1 => ?_)
  · skip
    exact ij_ret 2 (some (.int ((-1)))) (ij_SH, hi, hl, ij_HR) (fun n => rfl) (q0 c1)
  · skip
    refine ij_br 4 ((hi 47 13) ≤ a0) 30 12 [some (.ref 47), some (.int a0)] [] (ij_SH, hi, hl, ij_HR) (fun n => rfl) (fun c2 => ?_) (fun c2 => ?_)
    · skip
      exact ij_ret 2 (some (.int ((-1)))) (ij_SH, hi, hl, ij_HR) (fun n => rfl) (q1 c1 c2)
    · skip
      refine ij_br 5 (60 ≤ a0) 30 21 [some (.ref 47), some (.int a0)] [] (ij_SH, hi, hl, ij_HR) (fun n => rfl) (fun c3 => ?_) (fun c3 => ?_)
      · skip
        exact ij_ret 2 (some (.int ((-1)))) (ij_SH, hi, hl, ij_HR) (fun n => rfl) (q2 c1 c2 c3)
      · skip
        refine ij_go 3 26 [some (.ref 47), some (.int a0)] [.int a0, .ref 50] (ij_SH, hi, hl, ij_HR) (fun n => rfl) ?_
        refine ij_ial rfl rfl rfl (ij_bd c1 (Int32.not_le.mp c3) (by decide)) ?_
        exact ij_ret 2 (some (.int ((hi 50 (a0).toNatClampNeg)))) (ij_SH, hi, hl, ij_HR) (fun n => rfl) (q3 c1 c2 c3)
set_option maxRecDepth 10000 in
-- ScaleForge.logAt(I)I
theorem s351_0 {xt : ij_X} {hi : Nat → Nat → Int32} {hl : Nat → Nat → Int64} {Q : Option Value → ij_H → Prop} (a0 : Int32) (q0 : (a0 < 0) → ((-1) = (-1)) → Q (some (.int ((-1)))) (ij_SH, (ij_ui hi 0 0 6), hl, ij_HR)) (q1 : (a0 < 0) → ¬ ((-1) = (-1)) → Q (some (.int ((-1)))) (ij_SH, (ij_ui hi 0 0 0), hl, ij_HR)) (q2 : ¬ (a0 < 0) → ((hi 40 13) ≤ a0) → ((-1) = (-1)) → Q (some (.int ((-1)))) (ij_SH, (ij_ui hi 0 0 6), hl, ij_HR)) (q3 : ¬ (a0 < 0) → ((hi 40 13) ≤ a0) → ¬ ((-1) = (-1)) → Q (some (.int ((-1)))) (ij_SH, (ij_ui hi 0 0 0), hl, ij_HR)) (q4 : ¬ (a0 < 0) → ¬ ((hi 40 13) ≤ a0) → (60 ≤ a0) → ((-1) = (-1)) → Q (some (.int ((-1)))) (ij_SH, (ij_ui hi 0 0 6), hl, ij_HR)) (q5 : ¬ (a0 < 0) → ¬ ((hi 40 13) ≤ a0) → (60 ≤ a0) → ¬ ((-1) = (-1)) → Q (some (.int ((-1)))) (ij_SH, (ij_ui hi 0 0 0), hl, ij_HR)) (q6 : ¬ (a0 < 0) → ¬ ((hi 40 13) ≤ a0) → ¬ (60 ≤ a0) → ((hi 43 (a0).toNatClampNeg) = (-1)) → Q (some (.int ((-1)))) (ij_SH, (ij_ui hi 0 0 6), hl, ij_HR)) (q7 : ¬ (a0 < 0) → ¬ ((hi 40 13) ≤ a0) → ¬ (60 ≤ a0) → ¬ ((hi 43 (a0).toNatClampNeg) = (-1)) → Q (some (.int ((hi 43 (a0).toNatClampNeg)))) (ij_SH, (ij_ui hi 0 0 0), hl, ij_HR)) : ij_R xt 351 0 [some (.ref 0), some (.int a0)] [] (ij_SH, hi, hl, ij_HR) Q := by
  refine ij_call 5 350 [some (.ref 40), some (.int a0)] [.ref 0] 9 [some (.ref 0), some (.int a0)] (ij_SH, hi, hl, ij_HR) (fun n => rfl) (s350_40 a0 (fun c1 => ?_) (fun c2 c3 => ?_) (fun c4 c5 c6 => ?_) (fun c7 c8 c9 => ?_))
  · skip
    refine ij_call 1 167 [some (.ref 0), some (.int ((-1)))] [] 12 [some (.ref 0), some (.int a0)] (ij_SH, hi, hl, ij_HR) (fun n => rfl) (s167_0 (-1) (fun c10 => ?_) (fun c11 => ?_))
    · skip
      exact ij_ret 1 (some (.int ((-1)))) (ij_SH, (ij_ui hi 0 0 6), hl, ij_HR) (fun n => rfl) (q0 c1 c10)
    · skip
      exact ij_ret 1 (some (.int ((-1)))) (ij_SH, (ij_ui hi 0 0 0), hl, ij_HR) (fun n => rfl) (q1 c1 c11)
  · skip
    refine ij_call 1 167 [some (.ref 0), some (.int ((-1)))] [] 12 [some (.ref 0), some (.int a0)] (ij_SH, hi, hl, ij_HR) (fun n => rfl) (s167_0 (-1) (fun c12 => ?_) (fun c13 => ?_))
    · skip
      exact ij_ret 1 (some (.int ((-1)))) (ij_SH, (ij_ui hi 0 0 6), hl, ij_HR) (fun n => rfl) (q2 c2 c3 c12)
    · skip
      exact ij_ret 1 (some (.int ((-1)))) (ij_SH, (ij_ui hi 0 0 0), hl, ij_HR) (fun n => rfl) (q3 c2 c3 c13)
  · skip
    refine ij_call 1 167 [some (.ref 0), some (.int ((-1)))] [] 12 [some (.ref 0), some (.int a0)] (ij_SH, hi, hl, ij_HR) (fun n => rfl) (s167_0 (-1) (fun c14 => ?_) (fun c15 => ?_))
    · skip
      exact ij_ret 1 (some (.int ((-1)))) (ij_SH, (ij_ui hi 0 0 6), hl, ij_HR) (fun n => rfl) (q4 c4 c5 c6 c14)
    · skip
      exact ij_ret 1 (some (.int ((-1)))) (ij_SH, (ij_ui hi 0 0 0), hl, ij_HR) (fun n => rfl) (q5 c4 c5 c6 c15)
  · skip
    refine ij_call 1 167 [some (.ref 0), some (.int ((hi 43 (a0).toNatClampNeg)))] [] 12 [some (.ref 0), some (.int a0)] (ij_SH, hi, hl, ij_HR) (fun n => rfl) (s167_0 (hi 43 (a0).toNatClampNeg) (fun c16 => ?_) (fun c17 => ?_))
    · skip
      exact ij_ret 1 (some (.int ((-1)))) (ij_SH, (ij_ui hi 0 0 6), hl, ij_HR) (fun n => rfl) (q6 c7 c8 c9 c16)
    · skip
      exact ij_ret 1 (some (.int ((hi 43 (a0).toNatClampNeg)))) (ij_SH, (ij_ui hi 0 0 0), hl, ij_HR) (fun n => rfl) (q7 c7 c8 c9 c17)
