/-! What must hold that a stretch of a method ends well: methods 129 to 132. -/
-- ScaleForgeModel.test(I)Z at 90
set_option maxRecDepth 20000 in
theorem B129_p90_77 {N : Nat} {xs : Nat → Int32} {Q : iq_T} (v1 : Int) (v2 : Int) (g : iq_I) (l : iq_J) (H : (0 ≤ (v1 + 5) ∧ (v1 + 5) < 2392) ∧ (iq_P N xs 129 102 [some (iq_r 77), some (iq_i v1), some (iq_i v2)] [] (iq_uz g 78 (v1 + 5) (g 77 14)) l Q)) :
    iq_P N xs 129 90 [some (iq_r 77), some (iq_i v1), some (iq_i v2)] [] g l Q := iq_w_ok (cuts := [84, 90, 102]) 8 90 _ _ _ _ H

-- ScaleForgeModel.test(I)Z at 102
set_option maxRecDepth 20000 in
theorem B129_p102_77 {N : Nat} {xs : Nat → Int32} {Q : iq_T} (v1 : Int) (v2 : Int) (g : iq_I) (l : iq_J) (H : iq_P N xs 96 0 [some (iq_r 77), none] [] g l (fun r g1 l2 => r = none ∧ (iq_P N xs 102 0 [some (iq_r 77), some (iq_i (v1 + 2)), some (iq_i 0), some (iq_i 60)] [] g1 l2 (fun r g3 l4 => ∃ z5, r = some (iq_i z5) ∧ ((z5 = 0 ∨ z5 = 1) ∧ Q (some (iq_i z5)) g3 l4))))) :
    iq_P N xs 129 102 [some (iq_r 77), some (iq_i v1), some (iq_i v2)] [] g l Q := iq_w_ok (cuts := [84, 90, 102]) 10 102 _ _ _ _ H

-- ScaleForgeModel.studyOrder(II)Z at 0
set_option maxRecDepth 20000 in
theorem B130_77 {N : Nat} {xs : Nat → Int32} {Q : iq_T} (a0 : Int) (a1 : Int) (g : iq_I) (l : iq_J) (H : (-2147483648 ≤ a0 ∧ a0 ≤ 2147483647 ∧ (16 : Int) - 5 + 1 = 12) ∧ (
    (a0 = 5 → (iq_P N xs 102 0 [some (iq_r 77), some (iq_i (a1 + 1)), some (iq_i 0), some (iq_i 59)] [] g l (fun r g1 l2 => ∃ z3, r = some (iq_i z3) ∧ ((z3 = 0 ∨ z3 = 1) ∧ Q (some (iq_i z3)) g1 l2)))) ∧
    (a0 = 6 → (Q (some (iq_i 1)) g l)) ∧
    (a0 = 7 → (Q (some (iq_i 1)) g l)) ∧
    (a0 = 8 → (Q (some (iq_i 1)) g l)) ∧
    (a0 = 9 → (Q (some (iq_i 1)) g l)) ∧
    (a0 = 10 → (iq_P N xs 102 0 [some (iq_r 77), some (iq_i (a1 + 1)), some (iq_i 0), some (iq_i 59)] [] g l (fun r g4 l5 => ∃ z6, r = some (iq_i z6) ∧ ((z6 = 0 ∨ z6 = 1) ∧ Q (some (iq_i z6)) g4 l5)))) ∧
    (a0 = 11 → (iq_P N xs 102 0 [some (iq_r 77), some (iq_i (a1 + 1)), some (iq_i 0), some (iq_i 59)] [] g l (fun r g7 l8 => ∃ z9, r = some (iq_i z9) ∧ ((z9 = 0 ∨ z9 = 1) ∧ Q (some (iq_i z9)) g7 l8)))) ∧
    (a0 = 12 → (iq_P N xs 102 0 [some (iq_r 77), some (iq_i (a1 + 1)), some (iq_i 0), some (iq_i 59)] [] g l (fun r g10 l11 => ∃ z12, r = some (iq_i z12) ∧ ((z12 = 0 ∨ z12 = 1) ∧ Q (some (iq_i z12)) g10 l11)))) ∧
    (a0 = 13 → (Q (some (iq_i 1)) g l)) ∧
    (a0 = 14 → (Q (some (iq_i 1)) g l)) ∧
    (a0 = 15 → (iq_P N xs 129 0 [some (iq_r 77), some (iq_i a1), none] [] g l (fun r g13 l14 => ∃ z15, r = some (iq_i z15) ∧ ((z15 = 0 ∨ z15 = 1) ∧ Q (some (iq_i z15)) g13 l14)))) ∧
    (a0 = 16 → (iq_P N xs 102 0 [some (iq_r 77), some (iq_i (a1 + 1)), some (iq_i 1), some (iq_i 99)] [] g l (fun r g16 l17 => ∃ z18, r = some (iq_i z18) ∧ ((z18 = 0 ∨ z18 = 1) ∧ Q (some (iq_i z18)) g16 l17)))) ∧ True) ∧
    ((a0 < 5 ∨ 16 < a0) → (Q (some (iq_i 1)) g l))) :
    iq_P N xs 130 0 [some (iq_r 77), some (iq_i a0), some (iq_i a1)] [] g l Q := iq_w_ok (cuts := []) 10 0 _ _ _ _ H

-- ScaleForgeModel.studyStep()Z at 0
set_option maxRecDepth 20000 in
theorem B131_77 {N : Nat} {xs : Nat → Int32} {Q : iq_T} (g : iq_I) (l : iq_J) (H : iq_P N xs 99 0 [some (iq_r 77), some (iq_r 1000033), none, none, none, none, none] [] g l (fun r g1 l2 => ∃ z3, r = some (iq_i z3) ∧ ((-2147483648 ≤ z3 ∧ z3 ≤ 2147483647) ∧
      (z3 = (15 : Int) → (iq_P N xs 131 43 [some (iq_r 77), some (iq_i z3), some (iq_i (g1 78 1850)), some (iq_i (1932 + (6 * (g1 78 1850)))), none, none, none] [] g1 l2 Q)) ∧
      (¬ z3 = (15 : Int) → ((-2147483648 ≤ z3 ∧ z3 ≤ 2147483647) ∧
        (z3 = (16 : Int) → (iq_P N xs 131 43 [some (iq_r 77), some (iq_i z3), some (iq_i (g1 78 1850)), some (iq_i (1932 + (6 * (g1 78 1850)))), none, none, none] [] g1 l2 Q)) ∧
        (¬ z3 = (16 : Int) → ((-2147483648 ≤ z3 ∧ z3 ≤ 2147483647) ∧
          (¬ z3 = (12 : Int) → ((-2147483648 ≤ z3 ∧ z3 ≤ 2147483647) ∧
            (z3 = (5 : Int) → (iq_P N xs 131 67 [some (iq_r 77), some (iq_i z3), some (iq_i (g1 78 1850)), some (iq_i (1932 + (6 * (g1 78 1850)))), some (iq_i 0), none, none] [] g1 l2 Q)) ∧
            (¬ z3 = (5 : Int) → ((-2147483648 ≤ z3 ∧ z3 ≤ 2147483647) ∧
              (z3 < (10 : Int) → (iq_P N xs 131 71 [some (iq_r 77), some (iq_i z3), some (iq_i (g1 78 1850)), some (iq_i (1932 + (6 * (g1 78 1850)))), some (iq_i 0), none, none] [] g1 l2 Q)) ∧
              ((10 : Int) ≤ z3 → ((-2147483648 ≤ z3 ∧ z3 ≤ 2147483647) ∧
                ((18 : Int) < z3 → (iq_P N xs 131 71 [some (iq_r 77), some (iq_i z3), some (iq_i (g1 78 1850)), some (iq_i (1932 + (6 * (g1 78 1850)))), some (iq_i 0), none, none] [] g1 l2 Q)) ∧
                (z3 ≤ (18 : Int) → (iq_P N xs 131 67 [some (iq_r 77), some (iq_i z3), some (iq_i (g1 78 1850)), some (iq_i (1932 + (6 * (g1 78 1850)))), some (iq_i 0), none, none] [] g1 l2 Q)))))))) ∧
          (z3 = (12 : Int) → (iq_P N xs 131 43 [some (iq_r 77), some (iq_i z3), some (iq_i (g1 78 1850)), some (iq_i (1932 + (6 * (g1 78 1850)))), none, none, none] [] g1 l2 Q))))))))) :
    iq_P N xs 131 0 [some (iq_r 77), none, none, none, none, none, none] [] g l Q := iq_w_ok (cuts := [43, 67, 71, 74, 79, 92, 98, 104, 120, 170, 238, 356, 380]) 35 0 _ _ _ _ H

-- ScaleForgeModel.studyStep()Z at 43
set_option maxRecDepth 20000 in
theorem B131_p43_77 {N : Nat} {xs : Nat → Int32} {Q : iq_T} (v1 : Int) (v2 : Int) (v3 : Int) (g : iq_I) (l : iq_J) (H : (-2147483648 ≤ v1 ∧ v1 ≤ 2147483647) ∧
    (v1 = (5 : Int) → (iq_P N xs 131 67 [some (iq_r 77), some (iq_i v1), some (iq_i v2), some (iq_i v3), some (iq_i 1), none, none] [] g l Q)) ∧
    (¬ v1 = (5 : Int) → ((-2147483648 ≤ v1 ∧ v1 ≤ 2147483647) ∧
      (v1 < (10 : Int) → (iq_P N xs 131 71 [some (iq_r 77), some (iq_i v1), some (iq_i v2), some (iq_i v3), some (iq_i 1), none, none] [] g l Q)) ∧
      ((10 : Int) ≤ v1 → ((-2147483648 ≤ v1 ∧ v1 ≤ 2147483647) ∧
        ((18 : Int) < v1 → (iq_P N xs 131 71 [some (iq_r 77), some (iq_i v1), some (iq_i v2), some (iq_i v3), some (iq_i 1), none, none] [] g l Q)) ∧
        (v1 ≤ (18 : Int) → (iq_P N xs 131 67 [some (iq_r 77), some (iq_i v1), some (iq_i v2), some (iq_i v3), some (iq_i 1), none, none] [] g l Q))))))) :
    iq_P N xs 131 43 [some (iq_r 77), some (iq_i v1), some (iq_i v2), some (iq_i v3), none, none, none] [] g l Q := iq_w_ok (cuts := [43, 67, 71, 74, 79, 92, 98, 104, 120, 170, 238, 356, 380]) 12 43 _ _ _ _ H

-- ScaleForgeModel.studyStep()Z at 67
set_option maxRecDepth 20000 in
theorem B131_p67_77 {N : Nat} {xs : Nat → Int32} {Q : iq_T} (v1 : Int) (v2 : Int) (v3 : Int) (v4 : Int) (g : iq_I) (l : iq_J) (H : iq_P N xs 131 74 [some (iq_r 77), some (iq_i v1), some (iq_i v2), some (iq_i v3), some (iq_i v4), some (iq_i 1), none] [] g l Q) :
    iq_P N xs 131 67 [some (iq_r 77), some (iq_i v1), some (iq_i v2), some (iq_i v3), some (iq_i v4), none, none] [] g l Q := iq_w_ok (cuts := [43, 67, 71, 74, 79, 92, 98, 104, 120, 170, 238, 356, 380]) 3 67 _ _ _ _ H

-- ScaleForgeModel.studyStep()Z at 71
set_option maxRecDepth 20000 in
theorem B131_p71_77 {N : Nat} {xs : Nat → Int32} {Q : iq_T} (v1 : Int) (v2 : Int) (v3 : Int) (v4 : Int) (g : iq_I) (l : iq_J) (H : iq_P N xs 131 74 [some (iq_r 77), some (iq_i v1), some (iq_i v2), some (iq_i v3), some (iq_i v4), some (iq_i 0), none] [] g l Q) :
    iq_P N xs 131 71 [some (iq_r 77), some (iq_i v1), some (iq_i v2), some (iq_i v3), some (iq_i v4), none, none] [] g l Q := iq_w_ok (cuts := [43, 67, 71, 74, 79, 92, 98, 104, 120, 170, 238, 356, 380]) 2 71 _ _ _ _ H

-- ScaleForgeModel.studyStep()Z at 74
set_option maxRecDepth 20000 in
theorem B131_p74_77 {N : Nat} {xs : Nat → Int32} {Q : iq_T} (v1 : Int) (v2 : Int) (v3 : Int) (v4 : Int) (v5 : Int) (g : iq_I) (l : iq_J) (H : (-2147483648 ≤ v5 ∧ v5 ≤ 2147483647) ∧
    (v5 = (0 : Int) → (iq_P N xs 131 92 [some (iq_r 77), some (iq_i v1), some (iq_i v2), some (iq_i v3), some (iq_i v4), some (iq_i v5), none] [] g l Q)) ∧
    (¬ v5 = (0 : Int) → (iq_P N xs 131 79 [some (iq_r 77), some (iq_i v1), some (iq_i v2), some (iq_i v3), some (iq_i v4), some (iq_i v5), none] [] g l Q))) :
    iq_P N xs 131 74 [some (iq_r 77), some (iq_i v1), some (iq_i v2), some (iq_i v3), some (iq_i v4), some (iq_i v5), none] [] g l Q := iq_w_ok (cuts := [43, 67, 71, 74, 79, 92, 98, 104, 120, 170, 238, 356, 380]) 2 74 _ _ _ _ H

-- ScaleForgeModel.studyStep()Z at 79
set_option maxRecDepth 20000 in
theorem B131_p79_77 {N : Nat} {xs : Nat → Int32} {Q : iq_T} (v1 : Int) (v2 : Int) (v3 : Int) (v4 : Int) (v5 : Int) (g : iq_I) (l : iq_J) (H : (-2147483648 ≤ v1 ∧ v1 ≤ 2147483647) ∧
    (¬ v1 = (17 : Int) → (iq_P N xs 131 98 [some (iq_r 77), some (iq_i v1), some (iq_i v2), some (iq_i v3), some (iq_i v4), some (iq_i v5), none] [] g l Q)) ∧
    (v1 = (17 : Int) → ((-2147483648 ≤ (g 77 20) ∧ (g 77 20) ≤ 2147483647) ∧
      (¬ (g 77 20) = (0 : Int) → (iq_P N xs 131 98 [some (iq_r 77), some (iq_i v1), some (iq_i v2), some (iq_i v3), some (iq_i v4), some (iq_i v5), none] [] g l Q)) ∧
      ((g 77 20) = (0 : Int) → (iq_P N xs 131 92 [some (iq_r 77), some (iq_i v1), some (iq_i v2), some (iq_i v3), some (iq_i v4), some (iq_i v5), none] [] g l Q))))) :
    iq_P N xs 131 79 [some (iq_r 77), some (iq_i v1), some (iq_i v2), some (iq_i v3), some (iq_i v4), some (iq_i v5), none] [] g l Q := iq_w_ok (cuts := [43, 67, 71, 74, 79, 92, 98, 104, 120, 170, 238, 356, 380]) 6 79 _ _ _ _ H

-- ScaleForgeModel.studyStep()Z at 92
set_option maxRecDepth 20000 in
theorem B131_p92_77 {N : Nat} {xs : Nat → Int32} {Q : iq_T} (v1 : Int) (v2 : Int) (v3 : Int) (v4 : Int) (v5 : Int) (g : iq_I) (l : iq_J) (H : iq_P N xs 100 0 [some (iq_r 77), some (iq_i 2)] [] g l (fun r g1 l2 => ∃ z3, r = some (iq_i z3) ∧ ((z3 = 0 ∨ z3 = 1) ∧ Q (some (iq_i z3)) g1 l2))) :
    iq_P N xs 131 92 [some (iq_r 77), some (iq_i v1), some (iq_i v2), some (iq_i v3), some (iq_i v4), some (iq_i v5), none] [] g l Q := iq_w_ok (cuts := [43, 67, 71, 74, 79, 92, 98, 104, 120, 170, 238, 356, 380]) 4 92 _ _ _ _ H

-- ScaleForgeModel.studyStep()Z at 98
set_option maxRecDepth 20000 in
theorem B131_p98_77 {N : Nat} {xs : Nat → Int32} {Q : iq_T} (v1 : Int) (v2 : Int) (v3 : Int) (v4 : Int) (v5 : Int) (g : iq_I) (l : iq_J) (H : (-2147483648 ≤ v1 ∧ v1 ≤ 2147483647) ∧
    (v1 = (17 : Int) → (iq_P N xs 131 120 [some (iq_r 77), some (iq_i v1), some (iq_i v2), some (iq_i v3), some (iq_i v4), some (iq_i v5), none] [] g l Q)) ∧
    (¬ v1 = (17 : Int) → (iq_P N xs 131 104 [some (iq_r 77), some (iq_i v1), some (iq_i v2), some (iq_i v3), some (iq_i v4), some (iq_i v5), none] [] g l Q))) :
    iq_P N xs 131 98 [some (iq_r 77), some (iq_i v1), some (iq_i v2), some (iq_i v3), some (iq_i v4), some (iq_i v5), none] [] g l Q := iq_w_ok (cuts := [43, 67, 71, 74, 79, 92, 98, 104, 120, 170, 238, 356, 380]) 3 98 _ _ _ _ H

-- ScaleForgeModel.studyStep()Z at 104
set_option maxRecDepth 20000 in
theorem B131_p104_77 {N : Nat} {xs : Nat → Int32} {Q : iq_T} (v1 : Int) (v2 : Int) (v3 : Int) (v4 : Int) (v5 : Int) (g : iq_I) (l : iq_J) (H : (-2147483648 ≤ (g 77 21) ∧ (g 77 21) ≤ 2147483647) ∧
    (¬ (g 77 21) = (30 : Int) → (iq_P N xs 131 120 [some (iq_r 77), some (iq_i v1), some (iq_i v2), some (iq_i v3), some (iq_i v4), some (iq_i v5), none] [] g l Q)) ∧
    ((g 77 21) = (30 : Int) → (iq_P N xs 100 0 [some (iq_r 77), some (iq_i 6)] [] g l (fun r g1 l2 => ∃ z3, r = some (iq_i z3) ∧ ((z3 = 0 ∨ z3 = 1) ∧ Q (some (iq_i z3)) g1 l2))))) :
    iq_P N xs 131 104 [some (iq_r 77), some (iq_i v1), some (iq_i v2), some (iq_i v3), some (iq_i v4), some (iq_i v5), none] [] g l Q := iq_w_ok (cuts := [43, 67, 71, 74, 79, 92, 98, 104, 120, 170, 238, 356, 380]) 8 104 _ _ _ _ H

-- ScaleForgeModel.studyStep()Z at 120
set_option maxRecDepth 20000 in
theorem B131_p120_77 {N : Nat} {xs : Nat → Int32} {Q : iq_T} (v1 : Int) (v2 : Int) (v3 : Int) (v4 : Int) (v5 : Int) (g : iq_I) (l : iq_J) (H : (-2147483648 ≤ v4 ∧ v4 ≤ 2147483647) ∧
    (v4 = (0 : Int) → ((-2147483648 ≤ v1 ∧ v1 ≤ 2147483647) ∧
      (¬ v1 = (17 : Int) → ((0 ≤ v3 ∧ v3 < 2392) ∧ (iq_P N xs 131 170 [some (iq_r 77), some (iq_i v1), some (iq_i v2), some (iq_i v3), some (iq_i v4), some (iq_i v5), some (iq_i 1)] [] (iq_uz (iq_uz g 77 21 ((g 77 21) + 1)) 78 v3 v1) l Q))) ∧
      (v1 = (17 : Int) → ((0 ≤ v3 ∧ v3 < 2392) ∧ (iq_P N xs 131 170 [some (iq_r 77), some (iq_i v1), some (iq_i v2), some (iq_i v3), some (iq_i v4), some (iq_i v5), some (iq_i 1)] [] (iq_uz (iq_uz g 77 21 ((g 77 21) + 0)) 78 v3 v1) l Q))))) ∧
    (¬ v4 = (0 : Int) → ((-2147483648 ≤ (g 77 20) ∧ (g 77 20) ≤ 2147483647) ∧
      (¬ (g 77 20) = (3 : Int) → ((-2147483648 ≤ v1 ∧ v1 ≤ 2147483647) ∧
        (¬ v1 = (17 : Int) → ((0 ≤ v3 ∧ v3 < 2392) ∧ (iq_P N xs 131 170 [some (iq_r 77), some (iq_i v1), some (iq_i v2), some (iq_i v3), some (iq_i v4), some (iq_i v5), some (iq_i 1)] [] (iq_uz (iq_uz g 77 21 ((g 77 21) + 1)) 78 v3 v1) l Q))) ∧
        (v1 = (17 : Int) → ((0 ≤ v3 ∧ v3 < 2392) ∧ (iq_P N xs 131 170 [some (iq_r 77), some (iq_i v1), some (iq_i v2), some (iq_i v3), some (iq_i v4), some (iq_i v5), some (iq_i 1)] [] (iq_uz (iq_uz g 77 21 ((g 77 21) + 0)) 78 v3 v1) l Q))))) ∧
      ((g 77 20) = (3 : Int) → (iq_P N xs 100 0 [some (iq_r 77), some (iq_i 7)] [] g l (fun r g1 l2 => ∃ z3, r = some (iq_i z3) ∧ ((z3 = 0 ∨ z3 = 1) ∧ Q (some (iq_i z3)) g1 l2))))))) :
    iq_P N xs 131 120 [some (iq_r 77), some (iq_i v1), some (iq_i v2), some (iq_i v3), some (iq_i v4), some (iq_i v5), none] [] g l Q := iq_w_ok (cuts := [43, 67, 71, 74, 79, 92, 98, 104, 120, 170, 238, 356, 380]) 23 120 _ _ _ _ H

-- ScaleForgeModel.studyStep()Z at 170
set_option maxRecDepth 20000 in
theorem B131_p170_77 {N : Nat} {xs : Nat → Int32} {Q : iq_T} (v1 : Int) (v2 : Int) (v3 : Int) (v4 : Int) (v5 : Int) (v6 : Int) (g : iq_I) (l : iq_J) (H : (-2147483648 ≤ v6 ∧ v6 ≤ 2147483647) ∧
    ((6 : Int) ≤ v6 → (iq_P N xs 96 0 [some (iq_r 77), none] [] (iq_uz g 78 1850 ((g 78 1850) + 1)) l (fun r g1 l2 => r = none ∧ (iq_P N xs 130 0 [some (iq_r 77), some (iq_i v1), some (iq_i v3)] [] g1 l2 (fun r g3 l4 => ∃ z5, r = some (iq_i z5) ∧ ((-2147483648 ≤ z5 ∧ z5 ≤ 2147483647) ∧
          (¬ z5 = (0 : Int) → ((-2147483648 ≤ v1 ∧ v1 ≤ 2147483647) ∧
            (¬ v1 = (13 : Int) → (iq_P N xs 131 238 [some (iq_r 77), some (iq_i v1), some (iq_i v2), some (iq_i v3), some (iq_i v4), some (iq_i v5), some (iq_i 0)] [] g3 l4 Q)) ∧
            (v1 = (13 : Int) → ((0 ≤ (v3 + 4) ∧ (v3 + 4) < 2392) ∧ (iq_P N xs 131 238 [some (iq_r 77), some (iq_i v1), some (iq_i v2), some (iq_i v3), some (iq_i v4), some (iq_i v5), some (iq_i 0)] [] (iq_uz g3 78 (v3 + 4) (-1)) l4 Q))))) ∧
          (z5 = (0 : Int) → (Q (some (iq_i 0)) g3 l4)))))))) ∧
    (v6 < (6 : Int) → ((0 ≤ (v3 + v6) ∧ (v3 + v6) < 2392) ∧ (iq_P N xs 131 170 [some (iq_r 77), some (iq_i v1), some (iq_i v2), some (iq_i v3), some (iq_i v4), some (iq_i v5), some (iq_i (v6 + 1))] [] (iq_uz g 78 (v3 + v6) 0) l Q)))) :
    iq_P N xs 131 170 [some (iq_r 77), some (iq_i v1), some (iq_i v2), some (iq_i v3), some (iq_i v4), some (iq_i v5), some (iq_i v6)] [] g l Q := iq_w_ok (cuts := [43, 67, 71, 74, 79, 92, 98, 104, 120, 170, 238, 356, 380]) 30 170 _ _ _ _ H

-- ScaleForgeModel.studyStep()Z at 238
set_option maxRecDepth 20000 in
theorem B131_p238_77 {N : Nat} {xs : Nat → Int32} {Q : iq_T} (v1 : Int) (v2 : Int) (v3 : Int) (v4 : Int) (v5 : Int) (v6 : Int) (g : iq_I) (l : iq_J) (H : (-2147483648 ≤ v6 ∧ v6 ≤ 2147483647 ∧ -2147483648 ≤ (g 77 20) ∧ (g 77 20) ≤ 2147483647) ∧
    ((g 77 20) ≤ v6 → ((-2147483648 ≤ v4 ∧ v4 ≤ 2147483647) ∧
      (v4 = (0 : Int) → ((-2147483648 ≤ v1 ∧ v1 ≤ 2147483647) ∧
        (¬ v1 = (17 : Int) → (iq_P N xs 131 380 [some (iq_r 77), some (iq_i v1), some (iq_i v2), some (iq_i v3), some (iq_i v4), some (iq_i v5), some (iq_i v6)] [] g l Q)) ∧
        (v1 = (17 : Int) → ((0 ≤ ((g 77 20) - 1) ∧ ((g 77 20) - 1) < 3) ∧ ((0 ≤ (v3 + 4) ∧ (v3 + 4) < 2392) ∧ (iq_P N xs 131 356 [some (iq_r 77), some (iq_i v1), some (iq_i v2), some (iq_i v3), some (iq_i v4), some (iq_i v5), some (iq_i v6)] [] (iq_uz (iq_uz g 77 20 ((g 77 20) - 1)) 78 (v3 + 4) (g 84 ((g 77 20) - 1))) l Q)))))) ∧
      (¬ v4 = (0 : Int) → ((0 ≤ (g 77 20) ∧ (g 77 20) < 3) ∧ ((-2147483648 ≤ v1 ∧ v1 ≤ 2147483647) ∧
        (¬ v1 = (17 : Int) → (iq_P N xs 131 380 [some (iq_r 77), some (iq_i v1), some (iq_i v2), some (iq_i v3), some (iq_i v4), some (iq_i v5), some (iq_i v6)] [] (iq_uz (iq_uz g 84 (g 77 20) v2) 77 20 ((g 77 20) + 1)) l Q)) ∧
        (v1 = (17 : Int) → ((0 ≤ (((g 77 20) + 1) - 1) ∧ (((g 77 20) + 1) - 1) < 3) ∧ ((0 ≤ (v3 + 4) ∧ (v3 + 4) < 2392) ∧ (iq_P N xs 131 356 [some (iq_r 77), some (iq_i v1), some (iq_i v2), some (iq_i v3), some (iq_i v4), some (iq_i v5), some (iq_i v6)] [] (iq_uz (iq_uz (iq_uz (iq_uz g 84 (g 77 20) v2) 77 20 ((g 77 20) + 1)) 77 20 (((g 77 20) + 1) - 1)) 78 (v3 + 4) ((iq_uz g 84 (g 77 20) v2) 84 (((g 77 20) + 1) - 1))) l Q))))))))) ∧
    (v6 < (g 77 20) → ((-2147483648 ≤ v1 ∧ v1 ≤ 2147483647) ∧
      (¬ v1 = (13 : Int) → ((-2147483648 ≤ v4 ∧ v4 ≤ 2147483647) ∧
        (v4 = (0 : Int) → ((-2147483648 ≤ v1 ∧ v1 ≤ 2147483647) ∧
          (¬ v1 = (17 : Int) → (iq_P N xs 131 380 [some (iq_r 77), some (iq_i v1), some (iq_i v2), some (iq_i v3), some (iq_i v4), some (iq_i v5), some (iq_i v6)] [] g l Q)) ∧
          (v1 = (17 : Int) → ((0 ≤ ((g 77 20) - 1) ∧ ((g 77 20) - 1) < 3) ∧ ((0 ≤ (v3 + 4) ∧ (v3 + 4) < 2392) ∧ (iq_P N xs 131 356 [some (iq_r 77), some (iq_i v1), some (iq_i v2), some (iq_i v3), some (iq_i v4), some (iq_i v5), some (iq_i v6)] [] (iq_uz (iq_uz g 77 20 ((g 77 20) - 1)) 78 (v3 + 4) (g 84 ((g 77 20) - 1))) l Q)))))) ∧
        (¬ v4 = (0 : Int) → ((0 ≤ (g 77 20) ∧ (g 77 20) < 3) ∧ ((-2147483648 ≤ v1 ∧ v1 ≤ 2147483647) ∧
          (¬ v1 = (17 : Int) → (iq_P N xs 131 380 [some (iq_r 77), some (iq_i v1), some (iq_i v2), some (iq_i v3), some (iq_i v4), some (iq_i v5), some (iq_i v6)] [] (iq_uz (iq_uz g 84 (g 77 20) v2) 77 20 ((g 77 20) + 1)) l Q)) ∧
          (v1 = (17 : Int) → ((0 ≤ (((g 77 20) + 1) - 1) ∧ (((g 77 20) + 1) - 1) < 3) ∧ ((0 ≤ (v3 + 4) ∧ (v3 + 4) < 2392) ∧ (iq_P N xs 131 356 [some (iq_r 77), some (iq_i v1), some (iq_i v2), some (iq_i v3), some (iq_i v4), some (iq_i v5), some (iq_i v6)] [] (iq_uz (iq_uz (iq_uz (iq_uz g 84 (g 77 20) v2) 77 20 ((g 77 20) + 1)) 77 20 (((g 77 20) + 1) - 1)) 78 (v3 + 4) ((iq_uz g 84 (g 77 20) v2) 84 (((g 77 20) + 1) - 1))) l Q))))))))) ∧
      (v1 = (13 : Int) → ((0 ≤ v6 ∧ v6 < 3) ∧ ((0 ≤ (1932 + (6 * (g 84 v6))) ∧ (1932 + (6 * (g 84 v6))) < 2392) ∧ ((-2147483648 ≤ (g 78 (1932 + (6 * (g 84 v6)))) ∧ (g 78 (1932 + (6 * (g 84 v6)))) ≤ 2147483647) ∧
        (¬ (g 78 (1932 + (6 * (g 84 v6)))) = (12 : Int) → (iq_P N xs 131 238 [some (iq_r 77), some (iq_i v1), some (iq_i v2), some (iq_i v3), some (iq_i v4), some (iq_i v5), some (iq_i (v6 + 1))] [] g l Q)) ∧
        ((g 78 (1932 + (6 * (g 84 v6)))) = (12 : Int) → ((0 ≤ v6 ∧ v6 < 3) ∧ ((0 ≤ (v3 + 4) ∧ (v3 + 4) < 2392) ∧ (iq_P N xs 131 238 [some (iq_r 77), some (iq_i v1), some (iq_i v2), some (iq_i v3), some (iq_i v4), some (iq_i v5), some (iq_i (v6 + 1))] [] (iq_uz g 78 (v3 + 4) (g 84 v6)) l Q))))))))))) :
    iq_P N xs 131 238 [some (iq_r 77), some (iq_i v1), some (iq_i v2), some (iq_i v3), some (iq_i v4), some (iq_i v5), some (iq_i v6)] [] g l Q := iq_w_ok (cuts := [43, 67, 71, 74, 79, 92, 98, 104, 120, 170, 238, 356, 380]) 41 238 _ _ _ _ H

-- ScaleForgeModel.studyStep()Z at 356
set_option maxRecDepth 20000 in
theorem B131_p356_77 {N : Nat} {xs : Nat → Int32} {Q : iq_T} (v1 : Int) (v2 : Int) (v3 : Int) (v4 : Int) (v5 : Int) (v6 : Int) (g : iq_I) (l : iq_J) (H : (0 ≤ (g 77 20) ∧ (g 77 20) < 3) ∧ ((0 ≤ ((1932 + (6 * (g 84 (g 77 20)))) + 4) ∧ ((1932 + (6 * (g 84 (g 77 20)))) + 4) < 2392) ∧ (iq_P N xs 131 380 [some (iq_r 77), some (iq_i v1), some (iq_i v2), some (iq_i v3), some (iq_i v4), some (iq_i v5), some (iq_i v6)] [] (iq_uz g 78 ((1932 + (6 * (g 84 (g 77 20)))) + 4) v2) l Q))) :
    iq_P N xs 131 356 [some (iq_r 77), some (iq_i v1), some (iq_i v2), some (iq_i v3), some (iq_i v4), some (iq_i v5), some (iq_i v6)] [] g l Q := iq_w_ok (cuts := [43, 67, 71, 74, 79, 92, 98, 104, 120, 170, 238, 356, 380]) 15 356 _ _ _ _ H

-- ScaleForgeModel.studyStep()Z at 380
set_option maxRecDepth 20000 in
theorem B131_p380_77 {N : Nat} {xs : Nat → Int32} {Q : iq_T} (v1 : Int) (v2 : Int) (v3 : Int) (v4 : Int) (v5 : Int) (v6 : Int) (g : iq_I) (l : iq_J) (H : iq_P N xs 105 0 [some (iq_r 77), some (iq_i 59)] [] g l (fun r g1 l2 => ∃ z3, r = some (iq_i z3) ∧ ((z3 = 0 ∨ z3 = 1) ∧ Q (some (iq_i z3)) g1 l2))) :
    iq_P N xs 131 380 [some (iq_r 77), some (iq_i v1), some (iq_i v2), some (iq_i v3), some (iq_i v4), some (iq_i v5), some (iq_i v6)] [] g l Q := iq_w_ok (cuts := [43, 67, 71, 74, 79, 92, 98, 104, 120, 170, 238, 356, 380]) 4 380 _ _ _ _ H

-- ScaleForgeModel.studies(I)I at 0
set_option maxRecDepth 20000 in
theorem B132_77 {N : Nat} {xs : Nat → Int32} {Q : iq_T} (a0 : Int) (g : iq_I) (l : iq_J) (H : iq_P N xs 97 0 [some (iq_r 77), some (iq_i a0), some (iq_i 300), none] [] g l (fun r g1 l2 => ∃ z3, r = some (iq_i z3) ∧ ((-2147483648 ≤ z3 ∧ z3 ≤ 2147483647) ∧
      (¬ z3 = (0 : Int) → (iq_P N xs 132 38 [some (iq_r 77), some (iq_i a0), some (iq_i 1), none] [] (iq_uz (iq_uz (iq_uz g1 78 1850 0) 77 20 0) 77 21 0) l2 Q)) ∧
      (z3 = (0 : Int) → (iq_P N xs 98 0 [some (iq_r 77), some (iq_i 1)] [] g1 l2 (fun r g4 l5 => ∃ z6, r = some (iq_i z6) ∧ (Q (some (iq_i z6)) g4 l5))))))) :
    iq_P N xs 132 0 [some (iq_r 77), some (iq_i a0), none, none] [] g l Q := iq_w_ok (cuts := [38, 102]) 18 0 _ _ _ _ H

-- ScaleForgeModel.studies(I)I at 38
set_option maxRecDepth 20000 in
theorem B132_p38_77 {N : Nat} {xs : Nat → Int32} {Q : iq_T} (v1 : Int) (v2 : Int) (g : iq_I) (l : iq_J) (H : (-2147483648 ≤ v2 ∧ v2 ≤ 2147483647) ∧
    (v2 = (0 : Int) → ((-2147483648 ≤ (g 77 17) ∧ (g 77 17) ≤ 2147483647) ∧
      (¬ (g 77 17) = (0 : Int) → ((-2147483648 ≤ (g 77 17) ∧ (g 77 17) ≤ 2147483647) ∧
        (¬ (g 77 17) = (0 : Int) → (iq_P N xs 116 0 [some (iq_r 77), some (iq_i (g 77 21))] [] g l (fun r g1 l2 => ∃ z3, r = some (iq_i z3) ∧ (Q (some (iq_i z3)) g1 l2)))) ∧
        ((g 77 17) = (0 : Int) → (iq_P N xs 132 102 [some (iq_r 77), some (iq_i v1), some (iq_i v2), some (iq_i 92)] [] (iq_uz g 78 10 (g 78 1850)) l Q)))) ∧
      ((g 77 17) = (0 : Int) → ((-2147483648 ≤ (g 77 20) ∧ (g 77 20) ≤ 2147483647) ∧
        ((g 77 20) ≤ (0 : Int) → ((-2147483648 ≤ (g 77 17) ∧ (g 77 17) ≤ 2147483647) ∧
          (¬ (g 77 17) = (0 : Int) → (iq_P N xs 116 0 [some (iq_r 77), some (iq_i (g 77 21))] [] g l (fun r g4 l5 => ∃ z6, r = some (iq_i z6) ∧ (Q (some (iq_i z6)) g4 l5)))) ∧
          ((g 77 17) = (0 : Int) → (iq_P N xs 132 102 [some (iq_r 77), some (iq_i v1), some (iq_i v2), some (iq_i 92)] [] (iq_uz g 78 10 (g 78 1850)) l Q)))) ∧
        ((0 : Int) < (g 77 20) → (iq_P N xs 100 0 [some (iq_r 77), some (iq_i 2)] [] g l (fun r g7 l8 => ∃ z9, r = some (iq_i z9) ∧ ((-2147483648 ≤ (g7 77 17) ∧ (g7 77 17) ≤ 2147483647) ∧
            (¬ (g7 77 17) = (0 : Int) → (iq_P N xs 116 0 [some (iq_r 77), some (iq_i (g7 77 21))] [] g7 l8 (fun r g10 l11 => ∃ z12, r = some (iq_i z12) ∧ (Q (some (iq_i z12)) g10 l11)))) ∧
            ((g7 77 17) = (0 : Int) → (iq_P N xs 132 102 [some (iq_r 77), some (iq_i v1), some (iq_i v2), some (iq_i 92)] [] (iq_uz g7 78 10 (g7 78 1850)) l8 Q)))))))))) ∧
    (¬ v2 = (0 : Int) → ((-2147483648 ≤ (g 77 11) ∧ (g 77 11) ≤ 2147483647) ∧
      ((g 77 11) = (0 : Int) → ((-2147483648 ≤ (g 77 17) ∧ (g 77 17) ≤ 2147483647) ∧
        (¬ (g 77 17) = (0 : Int) → ((-2147483648 ≤ (g 77 17) ∧ (g 77 17) ≤ 2147483647) ∧
          (¬ (g 77 17) = (0 : Int) → (iq_P N xs 116 0 [some (iq_r 77), some (iq_i (g 77 21))] [] g l (fun r g13 l14 => ∃ z15, r = some (iq_i z15) ∧ (Q (some (iq_i z15)) g13 l14)))) ∧
          ((g 77 17) = (0 : Int) → (iq_P N xs 132 102 [some (iq_r 77), some (iq_i v1), some (iq_i v2), some (iq_i 92)] [] (iq_uz g 78 10 (g 78 1850)) l Q)))) ∧
        ((g 77 17) = (0 : Int) → ((-2147483648 ≤ (g 77 20) ∧ (g 77 20) ≤ 2147483647) ∧
          ((g 77 20) ≤ (0 : Int) → ((-2147483648 ≤ (g 77 17) ∧ (g 77 17) ≤ 2147483647) ∧
            (¬ (g 77 17) = (0 : Int) → (iq_P N xs 116 0 [some (iq_r 77), some (iq_i (g 77 21))] [] g l (fun r g16 l17 => ∃ z18, r = some (iq_i z18) ∧ (Q (some (iq_i z18)) g16 l17)))) ∧
            ((g 77 17) = (0 : Int) → (iq_P N xs 132 102 [some (iq_r 77), some (iq_i v1), some (iq_i v2), some (iq_i 92)] [] (iq_uz g 78 10 (g 78 1850)) l Q)))) ∧
          ((0 : Int) < (g 77 20) → (iq_P N xs 100 0 [some (iq_r 77), some (iq_i 2)] [] g l (fun r g19 l20 => ∃ z21, r = some (iq_i z21) ∧ ((-2147483648 ≤ (g19 77 17) ∧ (g19 77 17) ≤ 2147483647) ∧
              (¬ (g19 77 17) = (0 : Int) → (iq_P N xs 116 0 [some (iq_r 77), some (iq_i (g19 77 21))] [] g19 l20 (fun r g22 l23 => ∃ z24, r = some (iq_i z24) ∧ (Q (some (iq_i z24)) g22 l23)))) ∧
              ((g19 77 17) = (0 : Int) → (iq_P N xs 132 102 [some (iq_r 77), some (iq_i v1), some (iq_i v2), some (iq_i 92)] [] (iq_uz g19 78 10 (g19 78 1850)) l20 Q)))))))))) ∧
      (¬ (g 77 11) = (0 : Int) → (iq_P N xs 131 0 [some (iq_r 77), none, none, none, none, none, none] [] g l (fun r g25 l26 => ∃ z27, r = some (iq_i z27) ∧ (iq_P N xs 132 38 [some (iq_r 77), some (iq_i v1), some (iq_i z27), none] [] g25 l26 Q))))))) :
    iq_P N xs 132 38 [some (iq_r 77), some (iq_i v1), some (iq_i v2), none] [] g l Q := iq_w_ok (cuts := [38, 102]) 28 38 _ _ _ _ H

-- ScaleForgeModel.studies(I)I at 102
set_option maxRecDepth 20000 in
theorem B132_p102_77 {N : Nat} {xs : Nat → Int32} {Q : iq_T} (v1 : Int) (v2 : Int) (v3 : Int) (g : iq_I) (l : iq_J) (H : (-2147483648 ≤ v3 ∧ v3 ≤ 2147483647) ∧
    ((452 : Int) ≤ v3 → (iq_P N xs 116 0 [some (iq_r 77), some (iq_i (g 77 21))] [] g l (fun r g1 l2 => ∃ z3, r = some (iq_i z3) ∧ (Q (some (iq_i z3)) g1 l2)))) ∧
    (v3 < (452 : Int) → ((0 ≤ (1840 + v3) ∧ (1840 + v3) < 2392) ∧ ((0 ≤ v3 ∧ v3 < 2392) ∧ (iq_P N xs 132 102 [some (iq_r 77), some (iq_i v1), some (iq_i v2), some (iq_i (v3 + 1))] [] (iq_uz g 78 v3 (g 78 (1840 + v3))) l Q))))) :
    iq_P N xs 132 102 [some (iq_r 77), some (iq_i v1), some (iq_i v2), some (iq_i v3)] [] g l Q := iq_w_ok (cuts := [38, 102]) 15 102 _ _ _ _ H
