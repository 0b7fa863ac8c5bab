/-! What must hold that a stretch of a method ends well: methods 312 to 319. -/
-- ScaleForge.copyScale(I)I at 5
set_option maxRecDepth 20000 in
theorem B312_q5_4 {N : Nat} {xs : Nat → Int32} {Q : iq_T} (v1 : Int) (g : iq_I) (l : iq_J) (H : iq_P N xs 89 0 [some (iq_r 23)] [] g l (fun r g1 l2 => ∃ z3, r = some (iq_i z3) ∧ (iq_P N xs 311 0 [some (iq_r 4), some (iq_i z3)] [] g1 l2 (fun r g4 l5 => ∃ z6, r = some (iq_i z6) ∧ ((-2147483648 ≤ z6 ∧ z6 ≤ 2147483647) ∧
        (z6 = (0 : Int) → (iq_P N xs 137 0 [some (iq_r 0)] [] g4 l5 (fun r g7 l8 => iq_P N xs 312 41 [some (iq_r 0), some (iq_i v1), some (iq_r 4), some (iq_i z3), some (iq_i z6), none, none] (r.toList ++ []) g7 l8 Q))) ∧
        (¬ z6 = (0 : Int) → (iq_P N xs 44 0 [some (iq_r 0), some (iq_i z6)] [] g4 l5 (fun r g9 l10 => ∃ z11, r = some (iq_i z11) ∧ (Q (some (iq_i z11)) g9 l10))))))))) :
    iq_P N xs 312 5 [some (iq_r 0), some (iq_i v1), none, none, none, none, none] [iq_r 4] g l Q := iq_w_ok (cuts := [46]) 17 5 _ _ _ _ H

-- ScaleForge.copyScale(I)I at 5
set_option maxRecDepth 20000 in
theorem B312_q5_6 {N : Nat} {xs : Nat → Int32} {Q : iq_T} (v1 : Int) (g : iq_I) (l : iq_J) (H : iq_P N xs 89 0 [some (iq_r 23)] [] g l (fun r g1 l2 => ∃ z3, r = some (iq_i z3) ∧ (iq_P N xs 311 0 [some (iq_r 6), some (iq_i z3)] [] g1 l2 (fun r g4 l5 => ∃ z6, r = some (iq_i z6) ∧ ((-2147483648 ≤ z6 ∧ z6 ≤ 2147483647) ∧
        (z6 = (0 : Int) → (iq_P N xs 137 0 [some (iq_r 0)] [] g4 l5 (fun r g7 l8 => iq_P N xs 312 41 [some (iq_r 0), some (iq_i v1), some (iq_r 6), some (iq_i z3), some (iq_i z6), none, none] (r.toList ++ []) g7 l8 Q))) ∧
        (¬ z6 = (0 : Int) → (iq_P N xs 44 0 [some (iq_r 0), some (iq_i z6)] [] g4 l5 (fun r g9 l10 => ∃ z11, r = some (iq_i z11) ∧ (Q (some (iq_i z11)) g9 l10))))))))) :
    iq_P N xs 312 5 [some (iq_r 0), some (iq_i v1), none, none, none, none, none] [iq_r 6] g l Q := iq_w_ok (cuts := [46]) 17 5 _ _ _ _ H

-- ScaleForge.copyScale(I)I at 5
set_option maxRecDepth 20000 in
theorem B312_q5_8 {N : Nat} {xs : Nat → Int32} {Q : iq_T} (v1 : Int) (g : iq_I) (l : iq_J) (H : iq_P N xs 89 0 [some (iq_r 23)] [] g l (fun r g1 l2 => ∃ z3, r = some (iq_i z3) ∧ (iq_P N xs 311 0 [some (iq_r 8), some (iq_i z3)] [] g1 l2 (fun r g4 l5 => ∃ z6, r = some (iq_i z6) ∧ ((-2147483648 ≤ z6 ∧ z6 ≤ 2147483647) ∧
        (z6 = (0 : Int) → (iq_P N xs 137 0 [some (iq_r 0)] [] g4 l5 (fun r g7 l8 => iq_P N xs 312 41 [some (iq_r 0), some (iq_i v1), some (iq_r 8), some (iq_i z3), some (iq_i z6), none, none] (r.toList ++ []) g7 l8 Q))) ∧
        (¬ z6 = (0 : Int) → (iq_P N xs 44 0 [some (iq_r 0), some (iq_i z6)] [] g4 l5 (fun r g9 l10 => ∃ z11, r = some (iq_i z11) ∧ (Q (some (iq_i z11)) g9 l10))))))))) :
    iq_P N xs 312 5 [some (iq_r 0), some (iq_i v1), none, none, none, none, none] [iq_r 8] g l Q := iq_w_ok (cuts := [46]) 17 5 _ _ _ _ H

-- ScaleForge.copyScale(I)I at 41
set_option maxRecDepth 20000 in
theorem B312_q41_31_8 {N : Nat} {xs : Nat → Int32} {Q : iq_T} (v1 : Int) (v3 : Int) (v4 : Int) (g : iq_I) (l : iq_J) (H : iq_P N xs 312 46 [some (iq_r 0), some (iq_i v1), some (iq_r 8), some (iq_i v3), some (iq_i v4), some (iq_r 31), some (iq_i 0)] [] g l Q) :
    iq_P N xs 312 41 [some (iq_r 0), some (iq_i v1), some (iq_r 8), some (iq_i v3), some (iq_i v4), none, none] [iq_r 31] g l Q := iq_w_ok (cuts := [46]) 3 41 _ _ _ _ H

-- ScaleForge.copyScale(I)I at 46
set_option maxRecDepth 20000 in
theorem B312_p46_31 {N : Nat} {xs : Nat → Int32} {Q : iq_T} (v1 : Int) (v3 : Int) (v4 : Int) (v6 : Int) (g : iq_I) (l : iq_J) (H : (-2147483648 ≤ v6 ∧ v6 ≤ 2147483647 ∧ -2147483648 ≤ v3 ∧ v3 ≤ 2147483647) ∧
    (v3 ≤ v6 → (iq_P N xs 90 0 [some (iq_r 0), some (iq_i v3)] [] g l (fun r g1 l2 => ∃ z3, r = some (iq_i z3) ∧ (Q (some (iq_i z3)) g1 l2)))) ∧
    (v6 < v3 → (iq_P N xs 138 0 [some (iq_r 31), some (iq_i v6)] [] g l (fun r g4 l5 => ∃ z6, r = some (iq_i z6) ∧ (iq_P N xs 39 0 [some (iq_r 8), some (iq_i v6), some (iq_l (iq_i2l z6)), none] [] g4 l5 (fun r g7 l8 => r = none ∧ (iq_P N xs 312 46 [some (iq_r 0), some (iq_i v1), some (iq_r 8), some (iq_i v3), some (iq_i v4), some (iq_r 31), some (iq_i (v6 + 1))] [] g7 l8 Q))))))) :
    iq_P N xs 312 46 [some (iq_r 0), some (iq_i v1), some (iq_r 8), some (iq_i v3), some (iq_i v4), some (iq_r 31), some (iq_i v6)] [] g l Q := iq_w_ok (cuts := [46]) 12 46 _ _ _ _ H

-- ScaleForge.copyScale(I)I at 41
set_option maxRecDepth 20000 in
theorem B312_q41_31_6 {N : Nat} {xs : Nat → Int32} {Q : iq_T} (v1 : Int) (v3 : Int) (v4 : Int) (g : iq_I) (l : iq_J) (H : iq_P N xs 312 46 [some (iq_r 0), some (iq_i v1), some (iq_r 6), some (iq_i v3), some (iq_i v4), some (iq_r 31), some (iq_i 0)] [] g l Q) :
    iq_P N xs 312 41 [some (iq_r 0), some (iq_i v1), some (iq_r 6), some (iq_i v3), some (iq_i v4), none, none] [iq_r 31] g l Q := iq_w_ok (cuts := [46]) 3 41 _ _ _ _ H

-- ScaleForge.copyScale(I)I at 41
set_option maxRecDepth 20000 in
theorem B312_q41_31_4 {N : Nat} {xs : Nat → Int32} {Q : iq_T} (v1 : Int) (v3 : Int) (v4 : Int) (g : iq_I) (l : iq_J) (H : iq_P N xs 312 46 [some (iq_r 0), some (iq_i v1), some (iq_r 4), some (iq_i v3), some (iq_i v4), some (iq_r 31), some (iq_i 0)] [] g l Q) :
    iq_P N xs 312 41 [some (iq_r 0), some (iq_i v1), some (iq_r 4), some (iq_i v3), some (iq_i v4), none, none] [iq_r 31] g l Q := iq_w_ok (cuts := [46]) 3 41 _ _ _ _ H

-- ScaleForge.copyScale(I)I at 41
set_option maxRecDepth 20000 in
theorem B312_q41_31_2 {N : Nat} {xs : Nat → Int32} {Q : iq_T} (v1 : Int) (v3 : Int) (v4 : Int) (g : iq_I) (l : iq_J) (H : iq_P N xs 312 46 [some (iq_r 0), some (iq_i v1), some (iq_r 2), some (iq_i v3), some (iq_i v4), some (iq_r 31), some (iq_i 0)] [] g l Q) :
    iq_P N xs 312 41 [some (iq_r 0), some (iq_i v1), some (iq_r 2), some (iq_i v3), some (iq_i v4), none, none] [iq_r 31] g l Q := iq_w_ok (cuts := [46]) 3 41 _ _ _ _ H

-- ScaleForgeModel.copyScale(I)I at 0
set_option maxRecDepth 20000 in
theorem B313_77 {N : Nat} {xs : Nat → Int32} {Q : iq_T} (a0 : Int) (g : iq_I) (l : iq_J) (H : iq_P N xs 32 0 [some (iq_i a0)] [] g l (fun r g1 l2 => ∃ z3, r = some (iq_i z3) ∧ ((-2147483648 ≤ z3 ∧ z3 ≤ 2147483647) ∧
      (¬ z3 = (0 : Int) → (iq_P N xs 114 0 [some (iq_r 77)] [] g1 l2 (fun r g4 l5 => r = none ∧ ((0 ≤ a0 ∧ a0 < 4) ∧ ((-2147483648 ≤ (g4 80 a0) ∧ (g4 80 a0) ≤ 2147483647) ∧
          (¬ (g4 80 a0) = (-1 : Int) → ((0 ≤ a0 ∧ a0 < 4) ∧ ((-2147483648 ≤ (g4 80 a0) ∧ (g4 80 a0) ≤ 2147483647 ∧ -2147483648 ≤ (g4 77 26) ∧ (g4 77 26) ≤ 2147483647) ∧
            ((g4 77 26) ≤ (g4 80 a0) → (iq_P N xs 313 54 [some (iq_r 77), some (iq_i a0), some (iq_i 0)] [] g4 l5 Q)) ∧
            ((g4 80 a0) < (g4 77 26) → (iq_P N xs 98 0 [some (iq_r 77), some (iq_i 3)] [] g4 l5 (fun r g6 l7 => ∃ z8, r = some (iq_i z8) ∧ (Q (some (iq_i z8)) g6 l7))))))) ∧
          ((g4 80 a0) = (-1 : Int) → (iq_P N xs 98 0 [some (iq_r 77), some (iq_i 2)] [] g4 l5 (fun r g9 l10 => ∃ z11, r = some (iq_i z11) ∧ (Q (some (iq_i z11)) g9 l10))))))))) ∧
      (z3 = (0 : Int) → (iq_P N xs 98 0 [some (iq_r 77), some (iq_i 1)] [] g1 l2 (fun r g12 l13 => ∃ z14, r = some (iq_i z14) ∧ (Q (some (iq_i z14)) g12 l13))))))) :
    iq_P N xs 313 0 [some (iq_r 77), some (iq_i a0), none] [] g l Q := iq_w_ok (cuts := [54]) 22 0 _ _ _ _ H

-- ScaleForgeModel.copyScale(I)I at 54
set_option maxRecDepth 20000 in
theorem B313_p54_77 {N : Nat} {xs : Nat → Int32} {Q : iq_T} (v1 : Int) (v2 : Int) (g : iq_I) (l : iq_J) (H : (-2147483648 ≤ v2 ∧ v2 ≤ 2147483647 ∧ -2147483648 ≤ (g 77 26) ∧ (g 77 26) ≤ 2147483647) ∧
    ((g 77 26) ≤ v2 → (iq_P N xs 115 0 [some (iq_r 77), some (iq_i (g 77 26))] [] g l (fun r g1 l2 => ∃ z3, r = some (iq_i z3) ∧ (Q (some (iq_i z3)) g1 l2)))) ∧
    (v2 < (g 77 26) → ((0 ≤ v2 ∧ v2 < 24) ∧ ((0 ≤ v1 ∧ v1 < 4) ∧ (iq_P N xs 42 0 [some (iq_l (iq_i2l (g 85 v2))), none, some (iq_i (g 79 v1))] [] g l (fun r g4 l5 => ∃ x6, r = some (iq_l x6) ∧ ((0 ≤ ((60 * v1) + v2) ∧ ((60 * v1) + v2) < 240) ∧ (iq_P N xs 313 54 [some (iq_r 77), some (iq_i v1), some (iq_i (v2 + 1))] [] g4 (iq_uz l5 81 ((60 * v1) + v2) x6) Q)))))))) :
    iq_P N xs 313 54 [some (iq_r 77), some (iq_i v1), some (iq_i v2)] [] g l Q := iq_w_ok (cuts := [54]) 24 54 _ _ _ _ H

-- ScaleForge.isStepApart(II)Z at 0
set_option maxRecDepth 20000 in
theorem B314_0 {N : Nat} {xs : Nat → Int32} {Q : iq_T} (a0 : Int) (a1 : Int) (g : iq_I) (l : iq_J) (H : iq_P N xs 155 0 [some (iq_r 23), some (iq_i a0)] [] g l (fun r g1 l2 => ∃ z3, r = some (iq_i z3) ∧ ((-2147483648 ≤ z3 ∧ z3 ≤ 2147483647) ∧
      (z3 = (0 : Int) → (Q (some (iq_i 0)) g1 l2)) ∧
      (¬ z3 = (0 : Int) → (iq_P N xs 155 0 [some (iq_r 23), some (iq_i a1)] [] g1 l2 (fun r g4 l5 => ∃ z6, r = some (iq_i z6) ∧ ((-2147483648 ≤ z6 ∧ z6 ≤ 2147483647) ∧
          (¬ z6 = (0 : Int) → (iq_P N xs 89 0 [some (iq_r 23)] [] g4 l5 (fun r g7 l8 => ∃ z9, r = some (iq_i z9) ∧ (iq_P N xs 156 0 [some (iq_r 0), some (iq_i a0)] [] g7 l8 (fun r g10 l11 => ∃ z12, r = some (iq_i z12) ∧ (iq_P N xs 156 0 [some (iq_r 0), some (iq_i a1)] [] g10 l11 (fun r g13 l14 => ∃ z15, r = some (iq_i z15) ∧ (iq_P N xs 239 0 [some (iq_i (z12 - z15))] [] g13 l14 (fun r g16 l17 => ∃ z18, r = some (iq_i z18) ∧ ((-2147483648 ≤ z9 ∧ z9 ≤ 2147483647) ∧
                    (z9 = (1 : Int) → (iq_P N xs 314 67 [some (iq_r 0), some (iq_i a0), some (iq_i a1), some (iq_i z9), some (iq_i z18)] [] g16 l17 Q)) ∧
                    (¬ z9 = (1 : Int) → ((-2147483648 ≤ z18 ∧ z18 ≤ 2147483647) ∧
                      (z18 = (1 : Int) → (iq_P N xs 314 67 [some (iq_r 0), some (iq_i a0), some (iq_i a1), some (iq_i z9), some (iq_i z18)] [] g16 l17 Q)) ∧
                      (¬ z18 = (1 : Int) → ((-2147483648 ≤ z18 ∧ z18 ≤ 2147483647 ∧ -2147483648 ≤ (z9 - 1) ∧ (z9 - 1) ≤ 2147483647) ∧
                        (¬ z18 = (z9 - 1) → (iq_P N xs 314 71 [some (iq_r 0), some (iq_i a0), some (iq_i a1), some (iq_i z9), some (iq_i z18)] [] g16 l17 Q)) ∧
                        (z18 = (z9 - 1) → (iq_P N xs 314 67 [some (iq_r 0), some (iq_i a0), some (iq_i a1), some (iq_i z9), some (iq_i z18)] [] g16 l17 Q)))))))))))))))) ∧
          (z6 = (0 : Int) → (Q (some (iq_i 0)) g4 l5))))))))) :
    iq_P N xs 314 0 [some (iq_r 0), some (iq_i a0), some (iq_i a1), none, none] [] g l Q := iq_w_ok (cuts := [67, 71]) 34 0 _ _ _ _ H

-- ScaleForge.isStepApart(II)Z at 67
set_option maxRecDepth 20000 in
theorem B314_p67_0 {N : Nat} {xs : Nat → Int32} {Q : iq_T} (v1 : Int) (v2 : Int) (v3 : Int) (v4 : Int) (g : iq_I) (l : iq_J) (H : Q (some (iq_i 1)) g l) :
    iq_P N xs 314 67 [some (iq_r 0), some (iq_i v1), some (iq_i v2), some (iq_i v3), some (iq_i v4)] [] g l Q := iq_w_ok (cuts := [67, 71]) 3 67 _ _ _ _ H

-- ScaleForge.isStepApart(II)Z at 71
set_option maxRecDepth 20000 in
theorem B314_p71_0 {N : Nat} {xs : Nat → Int32} {Q : iq_T} (v1 : Int) (v2 : Int) (v3 : Int) (v4 : Int) (g : iq_I) (l : iq_J) (H : Q (some (iq_i 0)) g l) :
    iq_P N xs 314 71 [some (iq_r 0), some (iq_i v1), some (iq_i v2), some (iq_i v3), some (iq_i v4)] [] g l Q := iq_w_ok (cuts := [67, 71]) 2 71 _ _ _ _ H

-- ScaleForge.steps(II)I at 0
set_option maxRecDepth 20000 in
theorem B315_0 {N : Nat} {xs : Nat → Int32} {Q : iq_T} (a0 : Int) (a1 : Int) (g : iq_I) (l : iq_J) (H : iq_P N xs 27 0 [some (iq_r 0), some (iq_i a0)] [] g l (fun r g1 l2 => iq_P N xs 315 5 [some (iq_r 0), some (iq_i a0), some (iq_i a1), none, none, none, none] (r.toList ++ []) g1 l2 Q)) :
    iq_P N xs 315 0 [some (iq_r 0), some (iq_i a0), some (iq_i a1), none, none, none, none] [] g l Q := iq_w_ok (cuts := [46, 99]) 3 0 _ _ _ _ H

-- ScaleForge.steps(II)I at 5
set_option maxRecDepth 20000 in
theorem B315_q5_null {N : Nat} {xs : Nat → Int32} {Q : iq_T} (v1 : Int) (v2 : Int) (g : iq_I) (l : iq_J) (H : (-2147483648 ≤ v2 ∧ v2 ≤ 2147483647) ∧
    (v2 < (0 : Int) → (iq_P N xs 44 0 [some (iq_r 0), some (iq_i 1)] [] g l (fun r g1 l2 => ∃ z3, r = some (iq_i z3) ∧ (Q (some (iq_i z3)) g1 l2)))) ∧
    ((0 : Int) ≤ v2 → ((-2147483648 ≤ v2 ∧ v2 ≤ 2147483647) ∧
      (v2 ≤ (60 : Int) → (iq_P N xs 311 0 [some (iq_n), some (iq_i v2)] [] g l (fun r g4 l5 => ∃ z6, r = some (iq_i z6) ∧ (iq_P N xs 44 0 [some (iq_r 0), some (iq_i z6)] [] g4 l5 (fun r g7 l8 => ∃ z9, r = some (iq_i z9) ∧ (Q (some (iq_i z9)) g7 l8)))))) ∧
      ((60 : Int) < v2 → (iq_P N xs 44 0 [some (iq_r 0), some (iq_i 1)] [] g l (fun r g10 l11 => ∃ z12, r = some (iq_i z12) ∧ (Q (some (iq_i z12)) g10 l11))))))) :
    iq_P N xs 315 5 [some (iq_r 0), some (iq_i v1), some (iq_i v2), none, none, none, none] [iq_n] g l Q := iq_w_ok (cuts := [46, 99]) 16 5 _ _ _ _ H

-- ScaleForge.steps(II)I at 5
set_option maxRecDepth 20000 in
theorem B315_q5_2 {N : Nat} {xs : Nat → Int32} {Q : iq_T} (v1 : Int) (v2 : Int) (g : iq_I) (l : iq_J) (H : (-2147483648 ≤ v2 ∧ v2 ≤ 2147483647) ∧
    (v2 < (0 : Int) → (iq_P N xs 44 0 [some (iq_r 0), some (iq_i 1)] [] g l (fun r g1 l2 => ∃ z3, r = some (iq_i z3) ∧ (Q (some (iq_i z3)) g1 l2)))) ∧
    ((0 : Int) ≤ v2 → ((-2147483648 ≤ v2 ∧ v2 ≤ 2147483647) ∧
      (v2 ≤ (60 : Int) → (iq_P N xs 311 0 [some (iq_r 2), some (iq_i v2)] [] g l (fun r g4 l5 => ∃ z6, r = some (iq_i z6) ∧ ((-2147483648 ≤ z6 ∧ z6 ≤ 2147483647) ∧
          (z6 = (0 : Int) → (iq_P N xs 315 46 [some (iq_r 0), some (iq_i v1), some (iq_i v2), some (iq_r 2), some (iq_i z6), some (iq_i 0), none] [] g4 l5 Q)) ∧
          (¬ z6 = (0 : Int) → (iq_P N xs 44 0 [some (iq_r 0), some (iq_i z6)] [] g4 l5 (fun r g7 l8 => ∃ z9, r = some (iq_i z9) ∧ (Q (some (iq_i z9)) g7 l8)))))))) ∧
      ((60 : Int) < v2 → (iq_P N xs 44 0 [some (iq_r 0), some (iq_i 1)] [] g l (fun r g10 l11 => ∃ z12, r = some (iq_i z12) ∧ (Q (some (iq_i z12)) g10 l11))))))) :
    iq_P N xs 315 5 [some (iq_r 0), some (iq_i v1), some (iq_i v2), none, none, none, none] [iq_r 2] g l Q := iq_w_ok (cuts := [46, 99]) 18 5 _ _ _ _ H

-- ScaleForge.steps(II)I at 46
set_option maxRecDepth 20000 in
theorem B315_p46_2 {N : Nat} {xs : Nat → Int32} {Q : iq_T} (v1 : Int) (v2 : Int) (v4 : Int) (v5 : Int) (g : iq_I) (l : iq_J) (H : (-2147483648 ≤ v5 ∧ v5 ≤ 2147483647 ∧ -2147483648 ≤ v2 ∧ v2 ≤ 2147483647) ∧
    (v2 ≤ v5 → (iq_P N xs 315 99 [some (iq_r 0), some (iq_i v1), some (iq_i v2), some (iq_r 2), some (iq_i v4), some (iq_i 0), some (iq_i 1)] [] g l Q)) ∧
    (v5 < v2 → (iq_P N xs 45 0 [some (iq_r 2), some (iq_i v5)] [] g l (fun r g1 l2 => ∃ x3, r = some (iq_l x3) ∧ ((-2147483648 ≤ (iq_lc x3 (0 : Int64)) ∧ (iq_lc x3 (0 : Int64)) ≤ 2147483647) ∧
        ((iq_lc x3 (0 : Int64)) < (0 : Int) → (iq_P N xs 44 0 [some (iq_r 0), some (iq_i 5)] [] g1 l2 (fun r g4 l5 => ∃ z6, r = some (iq_i z6) ∧ (Q (some (iq_i z6)) g4 l5)))) ∧
        ((0 : Int) ≤ (iq_lc x3 (0 : Int64)) → (iq_P N xs 45 0 [some (iq_r 2), some (iq_i v5)] [] g1 l2 (fun r g7 l8 => ∃ x9, r = some (iq_l x9) ∧ (iq_P N xs 80 0 [some (iq_r 23)] [] g7 l8 (fun r g10 l11 => ∃ z12, r = some (iq_i z12) ∧ ((-2147483648 ≤ (iq_lc x9 (iq_i2l z12)) ∧ (iq_lc x9 (iq_i2l z12)) ≤ 2147483647) ∧
              ((iq_lc x9 (iq_i2l z12)) < (0 : Int) → (iq_P N xs 315 46 [some (iq_r 0), some (iq_i v1), some (iq_i v2), some (iq_r 2), some (iq_i v4), some (iq_i (v5 + 1)), none] [] g10 l11 Q)) ∧
              ((0 : Int) ≤ (iq_lc x9 (iq_i2l z12)) → (iq_P N xs 44 0 [some (iq_r 0), some (iq_i 5)] [] g10 l11 (fun r g13 l14 => ∃ z15, r = some (iq_i z15) ∧ (Q (some (iq_i z15)) g13 l14))))))))))))))) :
    iq_P N xs 315 46 [some (iq_r 0), some (iq_i v1), some (iq_i v2), some (iq_r 2), some (iq_i v4), some (iq_i v5), none] [] g l Q := iq_w_ok (cuts := [46, 99]) 22 46 _ _ _ _ H

-- ScaleForge.steps(II)I at 99
set_option maxRecDepth 20000 in
theorem B315_p99_2 {N : Nat} {xs : Nat → Int32} {Q : iq_T} (v1 : Int) (v2 : Int) (v4 : Int) (v5 : Int) (v6 : Int) (g : iq_I) (l : iq_J) (H : (-2147483648 ≤ v6 ∧ v6 ≤ 2147483647 ∧ -2147483648 ≤ v2 ∧ v2 ≤ 2147483647) ∧
    (v2 ≤ v6 → (iq_P N xs 90 0 [some (iq_r 0), some (iq_i v5)] [] g l (fun r g1 l2 => ∃ z3, r = some (iq_i z3) ∧ (Q (some (iq_i z3)) g1 l2)))) ∧
    (v6 < v2 → (iq_P N xs 45 0 [some (iq_r 2), some (iq_i (v6 - 1))] [] g l (fun r g4 l5 => ∃ x6, r = some (iq_l x6) ∧ (iq_P N xs 45 0 [some (iq_r 2), some (iq_i v6)] [] g4 l5 (fun r g7 l8 => ∃ x9, r = some (iq_l x9) ∧ (iq_P N xs 314 0 [some (iq_r 0), some (iq_i (iq_l2i x6)), some (iq_i (iq_l2i x9)), none, none] [] g7 l8 (fun r g10 l11 => ∃ z12, r = some (iq_i z12) ∧ ((-2147483648 ≤ z12 ∧ z12 ≤ 2147483647) ∧
            (z12 = (0 : Int) → (iq_P N xs 315 99 [some (iq_r 0), some (iq_i v1), some (iq_i v2), some (iq_r 2), some (iq_i v4), some (iq_i (v5 + 0)), some (iq_i (v6 + 1))] [] g10 l11 Q)) ∧
            (¬ z12 = (0 : Int) → (iq_P N xs 315 99 [some (iq_r 0), some (iq_i v1), some (iq_i v2), some (iq_r 2), some (iq_i v4), some (iq_i (v5 + 1)), some (iq_i (v6 + 1))] [] g10 l11 Q))))))))))) :
    iq_P N xs 315 99 [some (iq_r 0), some (iq_i v1), some (iq_i v2), some (iq_r 2), some (iq_i v4), some (iq_i v5), some (iq_i v6)] [] g l Q := iq_w_ok (cuts := [46, 99]) 23 99 _ _ _ _ H

-- ScaleForge.steps(II)I at 5
set_option maxRecDepth 20000 in
theorem B315_q5_4 {N : Nat} {xs : Nat → Int32} {Q : iq_T} (v1 : Int) (v2 : Int) (g : iq_I) (l : iq_J) (H : (-2147483648 ≤ v2 ∧ v2 ≤ 2147483647) ∧
    (v2 < (0 : Int) → (iq_P N xs 44 0 [some (iq_r 0), some (iq_i 1)] [] g l (fun r g1 l2 => ∃ z3, r = some (iq_i z3) ∧ (Q (some (iq_i z3)) g1 l2)))) ∧
    ((0 : Int) ≤ v2 → ((-2147483648 ≤ v2 ∧ v2 ≤ 2147483647) ∧
      (v2 ≤ (60 : Int) → (iq_P N xs 311 0 [some (iq_r 4), some (iq_i v2)] [] g l (fun r g4 l5 => ∃ z6, r = some (iq_i z6) ∧ ((-2147483648 ≤ z6 ∧ z6 ≤ 2147483647) ∧
          (z6 = (0 : Int) → (iq_P N xs 315 46 [some (iq_r 0), some (iq_i v1), some (iq_i v2), some (iq_r 4), some (iq_i z6), some (iq_i 0), none] [] g4 l5 Q)) ∧
          (¬ z6 = (0 : Int) → (iq_P N xs 44 0 [some (iq_r 0), some (iq_i z6)] [] g4 l5 (fun r g7 l8 => ∃ z9, r = some (iq_i z9) ∧ (Q (some (iq_i z9)) g7 l8)))))))) ∧
      ((60 : Int) < v2 → (iq_P N xs 44 0 [some (iq_r 0), some (iq_i 1)] [] g l (fun r g10 l11 => ∃ z12, r = some (iq_i z12) ∧ (Q (some (iq_i z12)) g10 l11))))))) :
    iq_P N xs 315 5 [some (iq_r 0), some (iq_i v1), some (iq_i v2), none, none, none, none] [iq_r 4] g l Q := iq_w_ok (cuts := [46, 99]) 18 5 _ _ _ _ H

-- ScaleForge.steps(II)I at 46
set_option maxRecDepth 20000 in
theorem B315_p46_4 {N : Nat} {xs : Nat → Int32} {Q : iq_T} (v1 : Int) (v2 : Int) (v4 : Int) (v5 : Int) (g : iq_I) (l : iq_J) (H : (-2147483648 ≤ v5 ∧ v5 ≤ 2147483647 ∧ -2147483648 ≤ v2 ∧ v2 ≤ 2147483647) ∧
    (v2 ≤ v5 → (iq_P N xs 315 99 [some (iq_r 0), some (iq_i v1), some (iq_i v2), some (iq_r 4), some (iq_i v4), some (iq_i 0), some (iq_i 1)] [] g l Q)) ∧
    (v5 < v2 → (iq_P N xs 45 0 [some (iq_r 4), some (iq_i v5)] [] g l (fun r g1 l2 => ∃ x3, r = some (iq_l x3) ∧ ((-2147483648 ≤ (iq_lc x3 (0 : Int64)) ∧ (iq_lc x3 (0 : Int64)) ≤ 2147483647) ∧
        ((iq_lc x3 (0 : Int64)) < (0 : Int) → (iq_P N xs 44 0 [some (iq_r 0), some (iq_i 5)] [] g1 l2 (fun r g4 l5 => ∃ z6, r = some (iq_i z6) ∧ (Q (some (iq_i z6)) g4 l5)))) ∧
        ((0 : Int) ≤ (iq_lc x3 (0 : Int64)) → (iq_P N xs 45 0 [some (iq_r 4), some (iq_i v5)] [] g1 l2 (fun r g7 l8 => ∃ x9, r = some (iq_l x9) ∧ (iq_P N xs 80 0 [some (iq_r 23)] [] g7 l8 (fun r g10 l11 => ∃ z12, r = some (iq_i z12) ∧ ((-2147483648 ≤ (iq_lc x9 (iq_i2l z12)) ∧ (iq_lc x9 (iq_i2l z12)) ≤ 2147483647) ∧
              ((iq_lc x9 (iq_i2l z12)) < (0 : Int) → (iq_P N xs 315 46 [some (iq_r 0), some (iq_i v1), some (iq_i v2), some (iq_r 4), some (iq_i v4), some (iq_i (v5 + 1)), none] [] g10 l11 Q)) ∧
              ((0 : Int) ≤ (iq_lc x9 (iq_i2l z12)) → (iq_P N xs 44 0 [some (iq_r 0), some (iq_i 5)] [] g10 l11 (fun r g13 l14 => ∃ z15, r = some (iq_i z15) ∧ (Q (some (iq_i z15)) g13 l14))))))))))))))) :
    iq_P N xs 315 46 [some (iq_r 0), some (iq_i v1), some (iq_i v2), some (iq_r 4), some (iq_i v4), some (iq_i v5), none] [] g l Q := iq_w_ok (cuts := [46, 99]) 22 46 _ _ _ _ H

-- ScaleForge.steps(II)I at 99
set_option maxRecDepth 20000 in
theorem B315_p99_4 {N : Nat} {xs : Nat → Int32} {Q : iq_T} (v1 : Int) (v2 : Int) (v4 : Int) (v5 : Int) (v6 : Int) (g : iq_I) (l : iq_J) (H : (-2147483648 ≤ v6 ∧ v6 ≤ 2147483647 ∧ -2147483648 ≤ v2 ∧ v2 ≤ 2147483647) ∧
    (v2 ≤ v6 → (iq_P N xs 90 0 [some (iq_r 0), some (iq_i v5)] [] g l (fun r g1 l2 => ∃ z3, r = some (iq_i z3) ∧ (Q (some (iq_i z3)) g1 l2)))) ∧
    (v6 < v2 → (iq_P N xs 45 0 [some (iq_r 4), some (iq_i (v6 - 1))] [] g l (fun r g4 l5 => ∃ x6, r = some (iq_l x6) ∧ (iq_P N xs 45 0 [some (iq_r 4), some (iq_i v6)] [] g4 l5 (fun r g7 l8 => ∃ x9, r = some (iq_l x9) ∧ (iq_P N xs 314 0 [some (iq_r 0), some (iq_i (iq_l2i x6)), some (iq_i (iq_l2i x9)), none, none] [] g7 l8 (fun r g10 l11 => ∃ z12, r = some (iq_i z12) ∧ ((-2147483648 ≤ z12 ∧ z12 ≤ 2147483647) ∧
            (z12 = (0 : Int) → (iq_P N xs 315 99 [some (iq_r 0), some (iq_i v1), some (iq_i v2), some (iq_r 4), some (iq_i v4), some (iq_i (v5 + 0)), some (iq_i (v6 + 1))] [] g10 l11 Q)) ∧
            (¬ z12 = (0 : Int) → (iq_P N xs 315 99 [some (iq_r 0), some (iq_i v1), some (iq_i v2), some (iq_r 4), some (iq_i v4), some (iq_i (v5 + 1)), some (iq_i (v6 + 1))] [] g10 l11 Q))))))))))) :
    iq_P N xs 315 99 [some (iq_r 0), some (iq_i v1), some (iq_i v2), some (iq_r 4), some (iq_i v4), some (iq_i v5), some (iq_i v6)] [] g l Q := iq_w_ok (cuts := [46, 99]) 23 99 _ _ _ _ H

-- ScaleForge.steps(II)I at 5
set_option maxRecDepth 20000 in
theorem B315_q5_6 {N : Nat} {xs : Nat → Int32} {Q : iq_T} (v1 : Int) (v2 : Int) (g : iq_I) (l : iq_J) (H : (-2147483648 ≤ v2 ∧ v2 ≤ 2147483647) ∧
    (v2 < (0 : Int) → (iq_P N xs 44 0 [some (iq_r 0), some (iq_i 1)] [] g l (fun r g1 l2 => ∃ z3, r = some (iq_i z3) ∧ (Q (some (iq_i z3)) g1 l2)))) ∧
    ((0 : Int) ≤ v2 → ((-2147483648 ≤ v2 ∧ v2 ≤ 2147483647) ∧
      (v2 ≤ (60 : Int) → (iq_P N xs 311 0 [some (iq_r 6), some (iq_i v2)] [] g l (fun r g4 l5 => ∃ z6, r = some (iq_i z6) ∧ ((-2147483648 ≤ z6 ∧ z6 ≤ 2147483647) ∧
          (z6 = (0 : Int) → (iq_P N xs 315 46 [some (iq_r 0), some (iq_i v1), some (iq_i v2), some (iq_r 6), some (iq_i z6), some (iq_i 0), none] [] g4 l5 Q)) ∧
          (¬ z6 = (0 : Int) → (iq_P N xs 44 0 [some (iq_r 0), some (iq_i z6)] [] g4 l5 (fun r g7 l8 => ∃ z9, r = some (iq_i z9) ∧ (Q (some (iq_i z9)) g7 l8)))))))) ∧
      ((60 : Int) < v2 → (iq_P N xs 44 0 [some (iq_r 0), some (iq_i 1)] [] g l (fun r g10 l11 => ∃ z12, r = some (iq_i z12) ∧ (Q (some (iq_i z12)) g10 l11))))))) :
    iq_P N xs 315 5 [some (iq_r 0), some (iq_i v1), some (iq_i v2), none, none, none, none] [iq_r 6] g l Q := iq_w_ok (cuts := [46, 99]) 18 5 _ _ _ _ H

-- ScaleForge.steps(II)I at 46
set_option maxRecDepth 20000 in
theorem B315_p46_6 {N : Nat} {xs : Nat → Int32} {Q : iq_T} (v1 : Int) (v2 : Int) (v4 : Int) (v5 : Int) (g : iq_I) (l : iq_J) (H : (-2147483648 ≤ v5 ∧ v5 ≤ 2147483647 ∧ -2147483648 ≤ v2 ∧ v2 ≤ 2147483647) ∧
    (v2 ≤ v5 → (iq_P N xs 315 99 [some (iq_r 0), some (iq_i v1), some (iq_i v2), some (iq_r 6), some (iq_i v4), some (iq_i 0), some (iq_i 1)] [] g l Q)) ∧
    (v5 < v2 → (iq_P N xs 45 0 [some (iq_r 6), some (iq_i v5)] [] g l (fun r g1 l2 => ∃ x3, r = some (iq_l x3) ∧ ((-2147483648 ≤ (iq_lc x3 (0 : Int64)) ∧ (iq_lc x3 (0 : Int64)) ≤ 2147483647) ∧
        ((iq_lc x3 (0 : Int64)) < (0 : Int) → (iq_P N xs 44 0 [some (iq_r 0), some (iq_i 5)] [] g1 l2 (fun r g4 l5 => ∃ z6, r = some (iq_i z6) ∧ (Q (some (iq_i z6)) g4 l5)))) ∧
        ((0 : Int) ≤ (iq_lc x3 (0 : Int64)) → (iq_P N xs 45 0 [some (iq_r 6), some (iq_i v5)] [] g1 l2 (fun r g7 l8 => ∃ x9, r = some (iq_l x9) ∧ (iq_P N xs 80 0 [some (iq_r 23)] [] g7 l8 (fun r g10 l11 => ∃ z12, r = some (iq_i z12) ∧ ((-2147483648 ≤ (iq_lc x9 (iq_i2l z12)) ∧ (iq_lc x9 (iq_i2l z12)) ≤ 2147483647) ∧
              ((iq_lc x9 (iq_i2l z12)) < (0 : Int) → (iq_P N xs 315 46 [some (iq_r 0), some (iq_i v1), some (iq_i v2), some (iq_r 6), some (iq_i v4), some (iq_i (v5 + 1)), none] [] g10 l11 Q)) ∧
              ((0 : Int) ≤ (iq_lc x9 (iq_i2l z12)) → (iq_P N xs 44 0 [some (iq_r 0), some (iq_i 5)] [] g10 l11 (fun r g13 l14 => ∃ z15, r = some (iq_i z15) ∧ (Q (some (iq_i z15)) g13 l14))))))))))))))) :
    iq_P N xs 315 46 [some (iq_r 0), some (iq_i v1), some (iq_i v2), some (iq_r 6), some (iq_i v4), some (iq_i v5), none] [] g l Q := iq_w_ok (cuts := [46, 99]) 22 46 _ _ _ _ H

-- ScaleForge.steps(II)I at 99
set_option maxRecDepth 20000 in
theorem B315_p99_6 {N : Nat} {xs : Nat → Int32} {Q : iq_T} (v1 : Int) (v2 : Int) (v4 : Int) (v5 : Int) (v6 : Int) (g : iq_I) (l : iq_J) (H : (-2147483648 ≤ v6 ∧ v6 ≤ 2147483647 ∧ -2147483648 ≤ v2 ∧ v2 ≤ 2147483647) ∧
    (v2 ≤ v6 → (iq_P N xs 90 0 [some (iq_r 0), some (iq_i v5)] [] g l (fun r g1 l2 => ∃ z3, r = some (iq_i z3) ∧ (Q (some (iq_i z3)) g1 l2)))) ∧
    (v6 < v2 → (iq_P N xs 45 0 [some (iq_r 6), some (iq_i (v6 - 1))] [] g l (fun r g4 l5 => ∃ x6, r = some (iq_l x6) ∧ (iq_P N xs 45 0 [some (iq_r 6), some (iq_i v6)] [] g4 l5 (fun r g7 l8 => ∃ x9, r = some (iq_l x9) ∧ (iq_P N xs 314 0 [some (iq_r 0), some (iq_i (iq_l2i x6)), some (iq_i (iq_l2i x9)), none, none] [] g7 l8 (fun r g10 l11 => ∃ z12, r = some (iq_i z12) ∧ ((-2147483648 ≤ z12 ∧ z12 ≤ 2147483647) ∧
            (z12 = (0 : Int) → (iq_P N xs 315 99 [some (iq_r 0), some (iq_i v1), some (iq_i v2), some (iq_r 6), some (iq_i v4), some (iq_i (v5 + 0)), some (iq_i (v6 + 1))] [] g10 l11 Q)) ∧
            (¬ z12 = (0 : Int) → (iq_P N xs 315 99 [some (iq_r 0), some (iq_i v1), some (iq_i v2), some (iq_r 6), some (iq_i v4), some (iq_i (v5 + 1)), some (iq_i (v6 + 1))] [] g10 l11 Q))))))))))) :
    iq_P N xs 315 99 [some (iq_r 0), some (iq_i v1), some (iq_i v2), some (iq_r 6), some (iq_i v4), some (iq_i v5), some (iq_i v6)] [] g l Q := iq_w_ok (cuts := [46, 99]) 23 99 _ _ _ _ H

-- ScaleForge.steps(II)I at 5
set_option maxRecDepth 20000 in
theorem B315_q5_8 {N : Nat} {xs : Nat → Int32} {Q : iq_T} (v1 : Int) (v2 : Int) (g : iq_I) (l : iq_J) (H : (-2147483648 ≤ v2 ∧ v2 ≤ 2147483647) ∧
    (v2 < (0 : Int) → (iq_P N xs 44 0 [some (iq_r 0), some (iq_i 1)] [] g l (fun r g1 l2 => ∃ z3, r = some (iq_i z3) ∧ (Q (some (iq_i z3)) g1 l2)))) ∧
    ((0 : Int) ≤ v2 → ((-2147483648 ≤ v2 ∧ v2 ≤ 2147483647) ∧
      (v2 ≤ (60 : Int) → (iq_P N xs 311 0 [some (iq_r 8), some (iq_i v2)] [] g l (fun r g4 l5 => ∃ z6, r = some (iq_i z6) ∧ ((-2147483648 ≤ z6 ∧ z6 ≤ 2147483647) ∧
          (z6 = (0 : Int) → (iq_P N xs 315 46 [some (iq_r 0), some (iq_i v1), some (iq_i v2), some (iq_r 8), some (iq_i z6), some (iq_i 0), none] [] g4 l5 Q)) ∧
          (¬ z6 = (0 : Int) → (iq_P N xs 44 0 [some (iq_r 0), some (iq_i z6)] [] g4 l5 (fun r g7 l8 => ∃ z9, r = some (iq_i z9) ∧ (Q (some (iq_i z9)) g7 l8)))))))) ∧
      ((60 : Int) < v2 → (iq_P N xs 44 0 [some (iq_r 0), some (iq_i 1)] [] g l (fun r g10 l11 => ∃ z12, r = some (iq_i z12) ∧ (Q (some (iq_i z12)) g10 l11))))))) :
    iq_P N xs 315 5 [some (iq_r 0), some (iq_i v1), some (iq_i v2), none, none, none, none] [iq_r 8] g l Q := iq_w_ok (cuts := [46, 99]) 18 5 _ _ _ _ H

-- ScaleForge.steps(II)I at 46
set_option maxRecDepth 20000 in
theorem B315_p46_8 {N : Nat} {xs : Nat → Int32} {Q : iq_T} (v1 : Int) (v2 : Int) (v4 : Int) (v5 : Int) (g : iq_I) (l : iq_J) (H : (-2147483648 ≤ v5 ∧ v5 ≤ 2147483647 ∧ -2147483648 ≤ v2 ∧ v2 ≤ 2147483647) ∧
    (v2 ≤ v5 → (iq_P N xs 315 99 [some (iq_r 0), some (iq_i v1), some (iq_i v2), some (iq_r 8), some (iq_i v4), some (iq_i 0), some (iq_i 1)] [] g l Q)) ∧
    (v5 < v2 → (iq_P N xs 45 0 [some (iq_r 8), some (iq_i v5)] [] g l (fun r g1 l2 => ∃ x3, r = some (iq_l x3) ∧ ((-2147483648 ≤ (iq_lc x3 (0 : Int64)) ∧ (iq_lc x3 (0 : Int64)) ≤ 2147483647) ∧
        ((iq_lc x3 (0 : Int64)) < (0 : Int) → (iq_P N xs 44 0 [some (iq_r 0), some (iq_i 5)] [] g1 l2 (fun r g4 l5 => ∃ z6, r = some (iq_i z6) ∧ (Q (some (iq_i z6)) g4 l5)))) ∧
        ((0 : Int) ≤ (iq_lc x3 (0 : Int64)) → (iq_P N xs 45 0 [some (iq_r 8), some (iq_i v5)] [] g1 l2 (fun r g7 l8 => ∃ x9, r = some (iq_l x9) ∧ (iq_P N xs 80 0 [some (iq_r 23)] [] g7 l8 (fun r g10 l11 => ∃ z12, r = some (iq_i z12) ∧ ((-2147483648 ≤ (iq_lc x9 (iq_i2l z12)) ∧ (iq_lc x9 (iq_i2l z12)) ≤ 2147483647) ∧
              ((iq_lc x9 (iq_i2l z12)) < (0 : Int) → (iq_P N xs 315 46 [some (iq_r 0), some (iq_i v1), some (iq_i v2), some (iq_r 8), some (iq_i v4), some (iq_i (v5 + 1)), none] [] g10 l11 Q)) ∧
              ((0 : Int) ≤ (iq_lc x9 (iq_i2l z12)) → (iq_P N xs 44 0 [some (iq_r 0), some (iq_i 5)] [] g10 l11 (fun r g13 l14 => ∃ z15, r = some (iq_i z15) ∧ (Q (some (iq_i z15)) g13 l14))))))))))))))) :
    iq_P N xs 315 46 [some (iq_r 0), some (iq_i v1), some (iq_i v2), some (iq_r 8), some (iq_i v4), some (iq_i v5), none] [] g l Q := iq_w_ok (cuts := [46, 99]) 22 46 _ _ _ _ H

-- ScaleForge.steps(II)I at 99
set_option maxRecDepth 20000 in
theorem B315_p99_8 {N : Nat} {xs : Nat → Int32} {Q : iq_T} (v1 : Int) (v2 : Int) (v4 : Int) (v5 : Int) (v6 : Int) (g : iq_I) (l : iq_J) (H : (-2147483648 ≤ v6 ∧ v6 ≤ 2147483647 ∧ -2147483648 ≤ v2 ∧ v2 ≤ 2147483647) ∧
    (v2 ≤ v6 → (iq_P N xs 90 0 [some (iq_r 0), some (iq_i v5)] [] g l (fun r g1 l2 => ∃ z3, r = some (iq_i z3) ∧ (Q (some (iq_i z3)) g1 l2)))) ∧
    (v6 < v2 → (iq_P N xs 45 0 [some (iq_r 8), some (iq_i (v6 - 1))] [] g l (fun r g4 l5 => ∃ x6, r = some (iq_l x6) ∧ (iq_P N xs 45 0 [some (iq_r 8), some (iq_i v6)] [] g4 l5 (fun r g7 l8 => ∃ x9, r = some (iq_l x9) ∧ (iq_P N xs 314 0 [some (iq_r 0), some (iq_i (iq_l2i x6)), some (iq_i (iq_l2i x9)), none, none] [] g7 l8 (fun r g10 l11 => ∃ z12, r = some (iq_i z12) ∧ ((-2147483648 ≤ z12 ∧ z12 ≤ 2147483647) ∧
            (z12 = (0 : Int) → (iq_P N xs 315 99 [some (iq_r 0), some (iq_i v1), some (iq_i v2), some (iq_r 8), some (iq_i v4), some (iq_i (v5 + 0)), some (iq_i (v6 + 1))] [] g10 l11 Q)) ∧
            (¬ z12 = (0 : Int) → (iq_P N xs 315 99 [some (iq_r 0), some (iq_i v1), some (iq_i v2), some (iq_r 8), some (iq_i v4), some (iq_i (v5 + 1)), some (iq_i (v6 + 1))] [] g10 l11 Q))))))))))) :
    iq_P N xs 315 99 [some (iq_r 0), some (iq_i v1), some (iq_i v2), some (iq_r 8), some (iq_i v4), some (iq_i v5), some (iq_i v6)] [] g l Q := iq_w_ok (cuts := [46, 99]) 23 99 _ _ _ _ H

-- ScaleForgeModel.areBeside(II)Z at 0
set_option maxRecDepth 20000 in
theorem B316_77 {N : Nat} {xs : Nat → Int32} {Q : iq_T} (a0 : Int) (a1 : Int) (g : iq_I) (l : iq_J) (H : (0 ≤ a0 ∧ a0 < 60) ∧ ((0 ≤ a1 ∧ a1 < 60) ∧ ((-2147483648 ≤ (g 87 a0) ∧ (g 87 a0) ≤ 2147483647) ∧
    ((g 87 a0) = (-1 : Int) → (Q (some (iq_i 0)) g l)) ∧
    (¬ (g 87 a0) = (-1 : Int) → ((-2147483648 ≤ (g 87 a1) ∧ (g 87 a1) ≤ 2147483647) ∧
      ((g 87 a1) = (-1 : Int) → (Q (some (iq_i 0)) g l)) ∧
      (¬ (g 87 a1) = (-1 : Int) → ((-2147483648 < ((g 87 a0) + 1) ∧ ((g 87 a0) + 1) ≤ 2147483647 ∧ -2147483648 ≤ (g 77 26) ∧ (g 77 26) ≤ 2147483647 ∧ ¬ (g 77 26) = 0) ∧ ((-2147483648 ≤ (Int.tmod ((g 87 a0) + 1) (g 77 26)) ∧ (Int.tmod ((g 87 a0) + 1) (g 77 26)) ≤ 2147483647 ∧ -2147483648 ≤ (g 87 a1) ∧ (g 87 a1) ≤ 2147483647) ∧
        ((Int.tmod ((g 87 a0) + 1) (g 77 26)) = (g 87 a1) → (Q (some (iq_i 1)) g l)) ∧
        (¬ (Int.tmod ((g 87 a0) + 1) (g 77 26)) = (g 87 a1) → ((-2147483648 < ((g 87 a1) + 1) ∧ ((g 87 a1) + 1) ≤ 2147483647 ∧ -2147483648 ≤ (g 77 26) ∧ (g 77 26) ≤ 2147483647 ∧ ¬ (g 77 26) = 0) ∧ ((-2147483648 ≤ (Int.tmod ((g 87 a1) + 1) (g 77 26)) ∧ (Int.tmod ((g 87 a1) + 1) (g 77 26)) ≤ 2147483647 ∧ -2147483648 ≤ (g 87 a0) ∧ (g 87 a0) ≤ 2147483647) ∧
          (¬ (Int.tmod ((g 87 a1) + 1) (g 77 26)) = (g 87 a0) → (Q (some (iq_i 0)) g l)) ∧
          ((Int.tmod ((g 87 a1) + 1) (g 77 26)) = (g 87 a0) → (Q (some (iq_i 1)) g l))))))))))))) :
    iq_P N xs 316 0 [some (iq_r 77), some (iq_i a0), some (iq_i a1), none, none] [] g l Q := iq_w_ok (cuts := []) 35 0 _ _ _ _ H

-- ScaleForgeModel.steps(II)I at 0
set_option maxRecDepth 20000 in
theorem B317_77 {N : Nat} {xs : Nat → Int32} {Q : iq_T} (a0 : Int) (a1 : Int) (g : iq_I) (l : iq_J) (H : iq_P N xs 32 0 [some (iq_i a0)] [] g l (fun r g1 l2 => ∃ z3, r = some (iq_i z3) ∧ ((-2147483648 ≤ z3 ∧ z3 ≤ 2147483647) ∧
      (z3 = (0 : Int) → (iq_P N xs 98 0 [some (iq_r 77), some (iq_i 1)] [] g1 l2 (fun r g4 l5 => ∃ z6, r = some (iq_i z6) ∧ (Q (some (iq_i z6)) g4 l5)))) ∧
      (¬ z3 = (0 : Int) → (iq_P N xs 149 0 [some (iq_l (iq_i2l a1)), none, some (iq_l (0 : Int64)), none, some (iq_l (Int64.ofNat 60)), none] [] g1 l2 (fun r g7 l8 => ∃ z9, r = some (iq_i z9) ∧ ((-2147483648 ≤ z9 ∧ z9 ≤ 2147483647) ∧
          (¬ z9 = (0 : Int) → ((0 ≤ a0 ∧ a0 < 4) ∧ ((-2147483648 ≤ (g7 80 a0) ∧ (g7 80 a0) ≤ 2147483647) ∧
            (¬ (g7 80 a0) = (-1 : Int) → ((0 ≤ a0 ∧ a0 < 4) ∧ ((-2147483648 ≤ (g7 80 a0) ∧ (g7 80 a0) ≤ 2147483647 ∧ -2147483648 ≤ a1 ∧ a1 ≤ 2147483647) ∧
              (a1 ≤ (g7 80 a0) → (iq_P N xs 317 65 [some (iq_r 77), some (iq_i a0), some (iq_i a1), some (iq_i (60 * a0)), some (iq_i 0), none] [] g7 l8 Q)) ∧
              ((g7 80 a0) < a1 → (iq_P N xs 98 0 [some (iq_r 77), some (iq_i 3)] [] g7 l8 (fun r g10 l11 => ∃ z12, r = some (iq_i z12) ∧ (Q (some (iq_i z12)) g10 l11))))))) ∧
            ((g7 80 a0) = (-1 : Int) → (iq_P N xs 98 0 [some (iq_r 77), some (iq_i 2)] [] g7 l8 (fun r g13 l14 => ∃ z15, r = some (iq_i z15) ∧ (Q (some (iq_i z15)) g13 l14))))))) ∧
          (z9 = (0 : Int) → (iq_P N xs 98 0 [some (iq_r 77), some (iq_i 1)] [] g7 l8 (fun r g16 l17 => ∃ z18, r = some (iq_i z18) ∧ (Q (some (iq_i z18)) g16 l17))))))))))) :
    iq_P N xs 317 0 [some (iq_r 77), some (iq_i a0), some (iq_i a1), none, none, none] [] g l Q := iq_w_ok (cuts := [65, 118]) 27 0 _ _ _ _ H

-- ScaleForgeModel.steps(II)I at 65
set_option maxRecDepth 20000 in
theorem B317_p65_77 {N : Nat} {xs : Nat → Int32} {Q : iq_T} (v1 : Int) (v2 : Int) (v3 : Int) (v4 : Int) (g : iq_I) (l : iq_J) (H : (-2147483648 ≤ v4 ∧ v4 ≤ 2147483647 ∧ -2147483648 ≤ v2 ∧ v2 ≤ 2147483647) ∧
    (v2 ≤ v4 → (iq_P N xs 114 0 [some (iq_r 77)] [] g l (fun r g1 l2 => r = none ∧ (iq_P N xs 317 118 [some (iq_r 77), some (iq_i v1), some (iq_i v2), some (iq_i v3), some (iq_i 0), some (iq_i 1)] [] g1 l2 Q)))) ∧
    (v4 < v2 → ((0 ≤ (v3 + v4) ∧ (v3 + v4) < 240) ∧ (iq_P N xs 149 0 [some (iq_l (l 81 (v3 + v4))), none, some (iq_l (0 : Int64)), none, some (iq_l ((iq_i2l (g 78 1)) - (1 : Int64))), none] [] g l (fun r g3 l4 => ∃ z5, r = some (iq_i z5) ∧ ((-2147483648 ≤ z5 ∧ z5 ≤ 2147483647) ∧
        (¬ z5 = (0 : Int) → (iq_P N xs 317 65 [some (iq_r 77), some (iq_i v1), some (iq_i v2), some (iq_i v3), some (iq_i (v4 + 1)), none] [] g3 l4 Q)) ∧
        (z5 = (0 : Int) → (iq_P N xs 98 0 [some (iq_r 77), some (iq_i 5)] [] g3 l4 (fun r g6 l7 => ∃ z8, r = some (iq_i z8) ∧ (Q (some (iq_i z8)) g6 l7)))))))))) :
    iq_P N xs 317 65 [some (iq_r 77), some (iq_i v1), some (iq_i v2), some (iq_i v3), some (iq_i v4), none] [] g l Q := iq_w_ok (cuts := [65, 118]) 23 65 _ _ _ _ H

-- ScaleForgeModel.steps(II)I at 118
set_option maxRecDepth 20000 in
theorem B317_p118_77 {N : Nat} {xs : Nat → Int32} {Q : iq_T} (v1 : Int) (v2 : Int) (v3 : Int) (v4 : Int) (v5 : Int) (g : iq_I) (l : iq_J) (H : (-2147483648 ≤ v5 ∧ v5 ≤ 2147483647 ∧ -2147483648 ≤ v2 ∧ v2 ≤ 2147483647) ∧
    (v2 ≤ v5 → (iq_P N xs 115 0 [some (iq_r 77), some (iq_i v4)] [] g l (fun r g1 l2 => ∃ z3, r = some (iq_i z3) ∧ (Q (some (iq_i z3)) g1 l2)))) ∧
    (v5 < v2 → ((0 ≤ ((v3 + v5) - 1) ∧ ((v3 + v5) - 1) < 240) ∧ ((0 ≤ (v3 + v5) ∧ (v3 + v5) < 240) ∧ (iq_P N xs 316 0 [some (iq_r 77), some (iq_i (iq_l2i (l 81 ((v3 + v5) - 1)))), some (iq_i (iq_l2i (l 81 (v3 + v5)))), none, none] [] g l (fun r g4 l5 => ∃ z6, r = some (iq_i z6) ∧ ((-2147483648 ≤ z6 ∧ z6 ≤ 2147483647) ∧
        (z6 = (0 : Int) → (iq_P N xs 317 118 [some (iq_r 77), some (iq_i v1), some (iq_i v2), some (iq_i v3), some (iq_i (v4 + 0)), some (iq_i (v5 + 1))] [] g4 l5 Q)) ∧
        (¬ z6 = (0 : Int) → (iq_P N xs 317 118 [some (iq_r 77), some (iq_i v1), some (iq_i v2), some (iq_i v3), some (iq_i (v4 + 1)), some (iq_i (v5 + 1))] [] g4 l5 Q))))))))) :
    iq_P N xs 317 118 [some (iq_r 77), some (iq_i v1), some (iq_i v2), some (iq_i v3), some (iq_i v4), some (iq_i v5)] [] g l Q := iq_w_ok (cuts := [65, 118]) 29 118 _ _ _ _ H

-- ScaleForge$Life.innermost()I at 0
set_option maxRecDepth 20000 in
theorem B318_40 {N : Nat} {xs : Nat → Int32} {Q : iq_T} (g : iq_I) (l : iq_J) (H : (-2147483648 ≤ (g 40 7) ∧ (g 40 7) ≤ 2147483647) ∧
    ((g 40 7) ≤ (0 : Int) → (Q (some (iq_i (-1))) g l)) ∧
    ((0 : Int) < (g 40 7) → ((-2147483648 ≤ (g 40 7) ∧ (g 40 7) ≤ 2147483647) ∧
      ((3 : Int) < (g 40 7) → (Q (some (iq_i (-1))) g l)) ∧
      ((g 40 7) ≤ (3 : Int) → ((0 ≤ ((g 40 7) - 1) ∧ ((g 40 7) - 1) < 3) ∧ (Q (some (iq_i (g 41 ((g 40 7) - 1)))) g l)))))) :
    iq_P N xs 318 0 [some (iq_r 40)] [] g l Q := iq_w_ok (cuts := []) 16 0 _ _ _ _ H

-- ScaleForge$Life.innermost()I at 0
set_option maxRecDepth 20000 in
theorem B318_47 {N : Nat} {xs : Nat → Int32} {Q : iq_T} (g : iq_I) (l : iq_J) (H : (-2147483648 ≤ (g 47 7) ∧ (g 47 7) ≤ 2147483647) ∧
    ((g 47 7) ≤ (0 : Int) → (Q (some (iq_i (-1))) g l)) ∧
    ((0 : Int) < (g 47 7) → ((-2147483648 ≤ (g 47 7) ∧ (g 47 7) ≤ 2147483647) ∧
      ((3 : Int) < (g 47 7) → (Q (some (iq_i (-1))) g l)) ∧
      ((g 47 7) ≤ (3 : Int) → ((0 ≤ ((g 47 7) - 1) ∧ ((g 47 7) - 1) < 3) ∧ (Q (some (iq_i (g 48 ((g 47 7) - 1)))) g l)))))) :
    iq_P N xs 318 0 [some (iq_r 47)] [] g l Q := iq_w_ok (cuts := []) 16 0 _ _ _ _ H

-- ScaleForge$Life.isAtEnd()Z at 0
set_option maxRecDepth 20000 in
theorem B319_40 {N : Nat} {xs : Nat → Int32} {Q : iq_T} (g : iq_I) (l : iq_J) (H : iq_P N xs 318 0 [some (iq_r 40)] [] g l (fun r g1 l2 => ∃ z3, r = some (iq_i z3) ∧ (iq_P N xs 118 0 [some (iq_r 26), some (iq_i z3)] [] g1 l2 (fun r g4 l5 => ∃ z6, r = some (iq_i z6) ∧ ((-2147483648 ≤ z6 ∧ z6 ≤ 2147483647) ∧
        (z6 = (0 : Int) → (Q (some (iq_i 0)) g4 l5)) ∧
        (¬ z6 = (0 : Int) → ((0 ≤ z3 ∧ z3 < 30) ∧ ((-2147483648 ≤ (g4 40 3) ∧ (g4 40 3) ≤ 2147483647 ∧ -2147483648 ≤ (g4 30 z3) ∧ (g4 30 z3) ≤ 2147483647) ∧
          (¬ (g4 40 3) = (g4 30 z3) → (Q (some (iq_i 0)) g4 l5)) ∧
          ((g4 40 3) = (g4 30 z3) → (Q (some (iq_i 1)) g4 l5)))))))))) :
    iq_P N xs 319 0 [some (iq_r 40), none] [] g l Q := iq_w_ok (cuts := []) 19 0 _ _ _ _ H

-- ScaleForge$Life.isAtEnd()Z at 0
set_option maxRecDepth 20000 in
theorem B319_47 {N : Nat} {xs : Nat → Int32} {Q : iq_T} (g : iq_I) (l : iq_J) (H : iq_P N xs 318 0 [some (iq_r 47)] [] g l (fun r g1 l2 => ∃ z3, r = some (iq_i z3) ∧ (iq_P N xs 118 0 [some (iq_r 26), some (iq_i z3)] [] g1 l2 (fun r g4 l5 => ∃ z6, r = some (iq_i z6) ∧ ((-2147483648 ≤ z6 ∧ z6 ≤ 2147483647) ∧
        (z6 = (0 : Int) → (Q (some (iq_i 0)) g4 l5)) ∧
        (¬ z6 = (0 : Int) → ((0 ≤ z3 ∧ z3 < 30) ∧ ((-2147483648 ≤ (g4 47 3) ∧ (g4 47 3) ≤ 2147483647 ∧ -2147483648 ≤ (g4 30 z3) ∧ (g4 30 z3) ≤ 2147483647) ∧
          (¬ (g4 47 3) = (g4 30 z3) → (Q (some (iq_i 0)) g4 l5)) ∧
          ((g4 47 3) = (g4 30 z3) → (Q (some (iq_i 1)) g4 l5)))))))))) :
    iq_P N xs 319 0 [some (iq_r 47), none] [] g l Q := iq_w_ok (cuts := []) 19 0 _ _ _ _ H
