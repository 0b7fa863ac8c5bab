/-! What must hold that a stretch of a method ends well: methods 49 to 60. -/
-- ScaleForge.pour(IIIII)Z at 12
set_option maxRecDepth 20000 in
theorem B49_q12_6_4 {N : Nat} {xs : Nat → Int32} {Q : iq_T} (v1 : Int) (v2 : Int) (v3 : Int) (v4 : Int) (v5 : Int) (g : iq_I) (l : iq_J) (H : (-2147483648 ≤ v2 ∧ v2 ≤ 2147483647) ∧
    (v2 < (0 : Int) → (iq_P N xs 28 0 [some (iq_r 0), some (iq_i 1)] [] g l (fun r g1 l2 => ∃ z3, r = some (iq_i z3) ∧ ((z3 = 0 ∨ z3 = 1) ∧ Q (some (iq_i z3)) g1 l2)))) ∧
    ((0 : Int) ≤ v2 → ((-2147483648 ≤ v4 ∧ v4 ≤ 2147483647) ∧
      (v4 < (0 : Int) → (iq_P N xs 28 0 [some (iq_r 0), some (iq_i 1)] [] g l (fun r g4 l5 => ∃ z6, r = some (iq_i z6) ∧ ((z6 = 0 ∨ z6 = 1) ∧ Q (some (iq_i z6)) g4 l5)))) ∧
      ((0 : Int) ≤ v4 → ((-2147483648 ≤ v5 ∧ v5 ≤ 2147483647) ∧
        ((0 : Int) ≤ v5 → (iq_P N xs 35 0 [some (iq_r 4)] [] g l (fun r g7 l8 => ∃ z9, r = some (iq_i z9) ∧ ((-2147483648 ≤ z9 ∧ z9 ≤ 2147483647) ∧
            (¬ z9 = (0 : Int) → (iq_P N xs 28 0 [some (iq_r 0), some (iq_i 2)] [] g7 l8 (fun r g10 l11 => ∃ z12, r = some (iq_i z12) ∧ ((z12 = 0 ∨ z12 = 1) ∧ Q (some (iq_i z12)) g10 l11)))) ∧
            (z9 = (0 : Int) → (iq_P N xs 35 0 [some (iq_r 6)] [] g7 l8 (fun r g13 l14 => ∃ z15, r = some (iq_i z15) ∧ ((-2147483648 ≤ z15 ∧ z15 ≤ 2147483647) ∧
                (z15 = (0 : Int) → ((-2147483648 ≤ (g13 4 1) ∧ (g13 4 1) ≤ 2147483647 ∧ -2147483648 ≤ (g13 6 1) ∧ (g13 6 1) ≤ 2147483647) ∧
                  ((g13 4 1) = (g13 6 1) → (iq_P N xs 48 0 [some (iq_r 4), some (iq_i v2), some (iq_i v5)] [] g13 l14 (fun r g16 l17 => ∃ z18, r = some (iq_i z18) ∧ ((-2147483648 ≤ z18 ∧ z18 ≤ 2147483647) ∧
                      (z18 = (0 : Int) → (iq_P N xs 28 0 [some (iq_r 0), some (iq_i 3)] [] g16 l17 (fun r g19 l20 => ∃ z21, r = some (iq_i z21) ∧ ((z21 = 0 ∨ z21 = 1) ∧ Q (some (iq_i z21)) g19 l20)))) ∧
                      (¬ z18 = (0 : Int) → (iq_P N xs 48 0 [some (iq_r 6), some (iq_i v4), some (iq_i v5)] [] g16 l17 (fun r g22 l23 => ∃ z24, r = some (iq_i z24) ∧ ((-2147483648 ≤ z24 ∧ z24 ≤ 2147483647) ∧
                          (¬ z24 = (0 : Int) → ((0 ≤ v2 ∧ 0 ≤ v4 ∧ 0 ≤ v5 ∧ v2 + v5 ≤ 60 ∧ v4 + v5 ≤ 60) ∧ (iq_P N xs 49 133 [some (iq_r 0), some (iq_i v1), some (iq_i v2), some (iq_i v3), some (iq_i v4), some (iq_i v5), some (iq_r 4), some (iq_r 6)] [] g22 (iq_rz l23 7 (iq_cz (l23 5) (l23 7) v2 v4 v5)) Q))) ∧
                          (z24 = (0 : Int) → (iq_P N xs 28 0 [some (iq_r 0), some (iq_i 3)] [] g22 l23 (fun r g25 l26 => ∃ z27, r = some (iq_i z27) ∧ ((z27 = 0 ∨ z27 = 1) ∧ Q (some (iq_i z27)) g25 l26)))))))))))) ∧
                  (¬ (g13 4 1) = (g13 6 1) → (iq_P N xs 28 0 [some (iq_r 0), some (iq_i 8)] [] g13 l14 (fun r g28 l29 => ∃ z30, r = some (iq_i z30) ∧ ((z30 = 0 ∨ z30 = 1) ∧ Q (some (iq_i z30)) g28 l29)))))) ∧
                (¬ z15 = (0 : Int) → (iq_P N xs 28 0 [some (iq_r 0), some (iq_i 2)] [] g13 l14 (fun r g31 l32 => ∃ z33, r = some (iq_i z33) ∧ ((z33 = 0 ∨ z33 = 1) ∧ Q (some (iq_i z33)) g31 l32)))))))))))) ∧
        (v5 < (0 : Int) → (iq_P N xs 28 0 [some (iq_r 0), some (iq_i 1)] [] g l (fun r g34 l35 => ∃ z36, r = some (iq_i z36) ∧ ((z36 = 0 ∨ z36 = 1) ∧ Q (some (iq_i z36)) g34 l35))))))))) :
    iq_P N xs 49 12 [some (iq_r 0), some (iq_i v1), some (iq_i v2), some (iq_i v3), some (iq_i v4), some (iq_i v5), some (iq_r 4), none] [iq_r 6] g l Q := iq_w_ok (cuts := [133]) 40 12 _ _ _ _ H

-- ScaleForge.pour(IIIII)Z at 12
set_option maxRecDepth 20000 in
theorem B49_q12_8_4 {N : Nat} {xs : Nat → Int32} {Q : iq_T} (v1 : Int) (v2 : Int) (v3 : Int) (v4 : Int) (v5 : Int) (g : iq_I) (l : iq_J) (H : (-2147483648 ≤ v2 ∧ v2 ≤ 2147483647) ∧
    (v2 < (0 : Int) → (iq_P N xs 28 0 [some (iq_r 0), some (iq_i 1)] [] g l (fun r g1 l2 => ∃ z3, r = some (iq_i z3) ∧ ((z3 = 0 ∨ z3 = 1) ∧ Q (some (iq_i z3)) g1 l2)))) ∧
    ((0 : Int) ≤ v2 → ((-2147483648 ≤ v4 ∧ v4 ≤ 2147483647) ∧
      (v4 < (0 : Int) → (iq_P N xs 28 0 [some (iq_r 0), some (iq_i 1)] [] g l (fun r g4 l5 => ∃ z6, r = some (iq_i z6) ∧ ((z6 = 0 ∨ z6 = 1) ∧ Q (some (iq_i z6)) g4 l5)))) ∧
      ((0 : Int) ≤ v4 → ((-2147483648 ≤ v5 ∧ v5 ≤ 2147483647) ∧
        ((0 : Int) ≤ v5 → (iq_P N xs 35 0 [some (iq_r 4)] [] g l (fun r g7 l8 => ∃ z9, r = some (iq_i z9) ∧ ((-2147483648 ≤ z9 ∧ z9 ≤ 2147483647) ∧
            (¬ z9 = (0 : Int) → (iq_P N xs 28 0 [some (iq_r 0), some (iq_i 2)] [] g7 l8 (fun r g10 l11 => ∃ z12, r = some (iq_i z12) ∧ ((z12 = 0 ∨ z12 = 1) ∧ Q (some (iq_i z12)) g10 l11)))) ∧
            (z9 = (0 : Int) → (iq_P N xs 35 0 [some (iq_r 8)] [] g7 l8 (fun r g13 l14 => ∃ z15, r = some (iq_i z15) ∧ ((-2147483648 ≤ z15 ∧ z15 ≤ 2147483647) ∧
                (z15 = (0 : Int) → ((-2147483648 ≤ (g13 4 1) ∧ (g13 4 1) ≤ 2147483647 ∧ -2147483648 ≤ (g13 8 1) ∧ (g13 8 1) ≤ 2147483647) ∧
                  ((g13 4 1) = (g13 8 1) → (iq_P N xs 48 0 [some (iq_r 4), some (iq_i v2), some (iq_i v5)] [] g13 l14 (fun r g16 l17 => ∃ z18, r = some (iq_i z18) ∧ ((-2147483648 ≤ z18 ∧ z18 ≤ 2147483647) ∧
                      (z18 = (0 : Int) → (iq_P N xs 28 0 [some (iq_r 0), some (iq_i 3)] [] g16 l17 (fun r g19 l20 => ∃ z21, r = some (iq_i z21) ∧ ((z21 = 0 ∨ z21 = 1) ∧ Q (some (iq_i z21)) g19 l20)))) ∧
                      (¬ z18 = (0 : Int) → (iq_P N xs 48 0 [some (iq_r 8), some (iq_i v4), some (iq_i v5)] [] g16 l17 (fun r g22 l23 => ∃ z24, r = some (iq_i z24) ∧ ((-2147483648 ≤ z24 ∧ z24 ≤ 2147483647) ∧
                          (¬ z24 = (0 : Int) → ((0 ≤ v2 ∧ 0 ≤ v4 ∧ 0 ≤ v5 ∧ v2 + v5 ≤ 60 ∧ v4 + v5 ≤ 60) ∧ (iq_P N xs 49 133 [some (iq_r 0), some (iq_i v1), some (iq_i v2), some (iq_i v3), some (iq_i v4), some (iq_i v5), some (iq_r 4), some (iq_r 8)] [] g22 (iq_rz l23 9 (iq_cz (l23 5) (l23 9) v2 v4 v5)) Q))) ∧
                          (z24 = (0 : Int) → (iq_P N xs 28 0 [some (iq_r 0), some (iq_i 3)] [] g22 l23 (fun r g25 l26 => ∃ z27, r = some (iq_i z27) ∧ ((z27 = 0 ∨ z27 = 1) ∧ Q (some (iq_i z27)) g25 l26)))))))))))) ∧
                  (¬ (g13 4 1) = (g13 8 1) → (iq_P N xs 28 0 [some (iq_r 0), some (iq_i 8)] [] g13 l14 (fun r g28 l29 => ∃ z30, r = some (iq_i z30) ∧ ((z30 = 0 ∨ z30 = 1) ∧ Q (some (iq_i z30)) g28 l29)))))) ∧
                (¬ z15 = (0 : Int) → (iq_P N xs 28 0 [some (iq_r 0), some (iq_i 2)] [] g13 l14 (fun r g31 l32 => ∃ z33, r = some (iq_i z33) ∧ ((z33 = 0 ∨ z33 = 1) ∧ Q (some (iq_i z33)) g31 l32)))))))))))) ∧
        (v5 < (0 : Int) → (iq_P N xs 28 0 [some (iq_r 0), some (iq_i 1)] [] g l (fun r g34 l35 => ∃ z36, r = some (iq_i z36) ∧ ((z36 = 0 ∨ z36 = 1) ∧ Q (some (iq_i z36)) g34 l35))))))))) :
    iq_P N xs 49 12 [some (iq_r 0), some (iq_i v1), some (iq_i v2), some (iq_i v3), some (iq_i v4), some (iq_i v5), some (iq_r 4), none] [iq_r 8] g l Q := iq_w_ok (cuts := [133]) 40 12 _ _ _ _ H

-- ScaleForge.pour(IIIII)Z at 12
set_option maxRecDepth 20000 in
theorem B49_q12_null_2 {N : Nat} {xs : Nat → Int32} {Q : iq_T} (v1 : Int) (v2 : Int) (v3 : Int) (v4 : Int) (v5 : Int) (g : iq_I) (l : iq_J) (H : iq_P N xs 28 0 [some (iq_r 0), some (iq_i 1)] [] g l (fun r g1 l2 => ∃ z3, r = some (iq_i z3) ∧ ((z3 = 0 ∨ z3 = 1) ∧ Q (some (iq_i z3)) g1 l2))) :
    iq_P N xs 49 12 [some (iq_r 0), some (iq_i v1), some (iq_i v2), some (iq_i v3), some (iq_i v4), some (iq_i v5), some (iq_r 2), none] [iq_n] g l Q := iq_w_ok (cuts := []) 9 12 _ _ _ _ H

-- ScaleForge.pour(IIIII)Z at 12
set_option maxRecDepth 20000 in
theorem B49_q12_2_2 {N : Nat} {xs : Nat → Int32} {Q : iq_T} (v1 : Int) (v2 : Int) (v3 : Int) (v4 : Int) (v5 : Int) (g : iq_I) (l : iq_J) (H : (-2147483648 ≤ v2 ∧ v2 ≤ 2147483647) ∧
    (v2 < (0 : Int) → (iq_P N xs 28 0 [some (iq_r 0), some (iq_i 1)] [] g l (fun r g1 l2 => ∃ z3, r = some (iq_i z3) ∧ ((z3 = 0 ∨ z3 = 1) ∧ Q (some (iq_i z3)) g1 l2)))) ∧
    ((0 : Int) ≤ v2 → ((-2147483648 ≤ v4 ∧ v4 ≤ 2147483647) ∧
      (v4 < (0 : Int) → (iq_P N xs 28 0 [some (iq_r 0), some (iq_i 1)] [] g l (fun r g4 l5 => ∃ z6, r = some (iq_i z6) ∧ ((z6 = 0 ∨ z6 = 1) ∧ Q (some (iq_i z6)) g4 l5)))) ∧
      ((0 : Int) ≤ v4 → ((-2147483648 ≤ v5 ∧ v5 ≤ 2147483647) ∧
        ((0 : Int) ≤ v5 → (iq_P N xs 35 0 [some (iq_r 2)] [] g l (fun r g7 l8 => ∃ z9, r = some (iq_i z9) ∧ ((-2147483648 ≤ z9 ∧ z9 ≤ 2147483647) ∧
            (¬ z9 = (0 : Int) → (iq_P N xs 28 0 [some (iq_r 0), some (iq_i 2)] [] g7 l8 (fun r g10 l11 => ∃ z12, r = some (iq_i z12) ∧ ((z12 = 0 ∨ z12 = 1) ∧ Q (some (iq_i z12)) g10 l11)))) ∧
            (z9 = (0 : Int) → (iq_P N xs 35 0 [some (iq_r 2)] [] g7 l8 (fun r g13 l14 => ∃ z15, r = some (iq_i z15) ∧ ((-2147483648 ≤ z15 ∧ z15 ≤ 2147483647) ∧
                (z15 = (0 : Int) → ((-2147483648 ≤ (g13 2 1) ∧ (g13 2 1) ≤ 2147483647 ∧ -2147483648 ≤ (g13 2 1) ∧ (g13 2 1) ≤ 2147483647) ∧
                  ((g13 2 1) = (g13 2 1) → (iq_P N xs 48 0 [some (iq_r 2), some (iq_i v2), some (iq_i v5)] [] g13 l14 (fun r g16 l17 => ∃ z18, r = some (iq_i z18) ∧ ((-2147483648 ≤ z18 ∧ z18 ≤ 2147483647) ∧
                      (z18 = (0 : Int) → (iq_P N xs 28 0 [some (iq_r 0), some (iq_i 3)] [] g16 l17 (fun r g19 l20 => ∃ z21, r = some (iq_i z21) ∧ ((z21 = 0 ∨ z21 = 1) ∧ Q (some (iq_i z21)) g19 l20)))) ∧
                      (¬ z18 = (0 : Int) → (iq_P N xs 48 0 [some (iq_r 2), some (iq_i v4), some (iq_i v5)] [] g16 l17 (fun r g22 l23 => ∃ z24, r = some (iq_i z24) ∧ ((-2147483648 ≤ z24 ∧ z24 ≤ 2147483647) ∧
                          (¬ z24 = (0 : Int) → ((0 ≤ v2 ∧ 0 ≤ v4 ∧ 0 ≤ v5 ∧ v2 + v5 ≤ 60 ∧ v4 + v5 ≤ 60) ∧ (iq_P N xs 49 133 [some (iq_r 0), some (iq_i v1), some (iq_i v2), some (iq_i v3), some (iq_i v4), some (iq_i v5), some (iq_r 2), some (iq_r 2)] [] g22 (iq_rz l23 3 (iq_cz (l23 3) (l23 3) v2 v4 v5)) Q))) ∧
                          (z24 = (0 : Int) → (iq_P N xs 28 0 [some (iq_r 0), some (iq_i 3)] [] g22 l23 (fun r g25 l26 => ∃ z27, r = some (iq_i z27) ∧ ((z27 = 0 ∨ z27 = 1) ∧ Q (some (iq_i z27)) g25 l26)))))))))))) ∧
                  (¬ (g13 2 1) = (g13 2 1) → (iq_P N xs 28 0 [some (iq_r 0), some (iq_i 8)] [] g13 l14 (fun r g28 l29 => ∃ z30, r = some (iq_i z30) ∧ ((z30 = 0 ∨ z30 = 1) ∧ Q (some (iq_i z30)) g28 l29)))))) ∧
                (¬ z15 = (0 : Int) → (iq_P N xs 28 0 [some (iq_r 0), some (iq_i 2)] [] g13 l14 (fun r g31 l32 => ∃ z33, r = some (iq_i z33) ∧ ((z33 = 0 ∨ z33 = 1) ∧ Q (some (iq_i z33)) g31 l32)))))))))))) ∧
        (v5 < (0 : Int) → (iq_P N xs 28 0 [some (iq_r 0), some (iq_i 1)] [] g l (fun r g34 l35 => ∃ z36, r = some (iq_i z36) ∧ ((z36 = 0 ∨ z36 = 1) ∧ Q (some (iq_i z36)) g34 l35))))))))) :
    iq_P N xs 49 12 [some (iq_r 0), some (iq_i v1), some (iq_i v2), some (iq_i v3), some (iq_i v4), some (iq_i v5), some (iq_r 2), none] [iq_r 2] g l Q := iq_w_ok (cuts := [133]) 40 12 _ _ _ _ H

-- ScaleForge.pour(IIIII)Z at 12
set_option maxRecDepth 20000 in
theorem B49_q12_4_2 {N : Nat} {xs : Nat → Int32} {Q : iq_T} (v1 : Int) (v2 : Int) (v3 : Int) (v4 : Int) (v5 : Int) (g : iq_I) (l : iq_J) (H : (-2147483648 ≤ v2 ∧ v2 ≤ 2147483647) ∧
    (v2 < (0 : Int) → (iq_P N xs 28 0 [some (iq_r 0), some (iq_i 1)] [] g l (fun r g1 l2 => ∃ z3, r = some (iq_i z3) ∧ ((z3 = 0 ∨ z3 = 1) ∧ Q (some (iq_i z3)) g1 l2)))) ∧
    ((0 : Int) ≤ v2 → ((-2147483648 ≤ v4 ∧ v4 ≤ 2147483647) ∧
      (v4 < (0 : Int) → (iq_P N xs 28 0 [some (iq_r 0), some (iq_i 1)] [] g l (fun r g4 l5 => ∃ z6, r = some (iq_i z6) ∧ ((z6 = 0 ∨ z6 = 1) ∧ Q (some (iq_i z6)) g4 l5)))) ∧
      ((0 : Int) ≤ v4 → ((-2147483648 ≤ v5 ∧ v5 ≤ 2147483647) ∧
        ((0 : Int) ≤ v5 → (iq_P N xs 35 0 [some (iq_r 2)] [] g l (fun r g7 l8 => ∃ z9, r = some (iq_i z9) ∧ ((-2147483648 ≤ z9 ∧ z9 ≤ 2147483647) ∧
            (¬ z9 = (0 : Int) → (iq_P N xs 28 0 [some (iq_r 0), some (iq_i 2)] [] g7 l8 (fun r g10 l11 => ∃ z12, r = some (iq_i z12) ∧ ((z12 = 0 ∨ z12 = 1) ∧ Q (some (iq_i z12)) g10 l11)))) ∧
            (z9 = (0 : Int) → (iq_P N xs 35 0 [some (iq_r 4)] [] g7 l8 (fun r g13 l14 => ∃ z15, r = some (iq_i z15) ∧ ((-2147483648 ≤ z15 ∧ z15 ≤ 2147483647) ∧
                (z15 = (0 : Int) → ((-2147483648 ≤ (g13 2 1) ∧ (g13 2 1) ≤ 2147483647 ∧ -2147483648 ≤ (g13 4 1) ∧ (g13 4 1) ≤ 2147483647) ∧
                  ((g13 2 1) = (g13 4 1) → (iq_P N xs 48 0 [some (iq_r 2), some (iq_i v2), some (iq_i v5)] [] g13 l14 (fun r g16 l17 => ∃ z18, r = some (iq_i z18) ∧ ((-2147483648 ≤ z18 ∧ z18 ≤ 2147483647) ∧
                      (z18 = (0 : Int) → (iq_P N xs 28 0 [some (iq_r 0), some (iq_i 3)] [] g16 l17 (fun r g19 l20 => ∃ z21, r = some (iq_i z21) ∧ ((z21 = 0 ∨ z21 = 1) ∧ Q (some (iq_i z21)) g19 l20)))) ∧
                      (¬ z18 = (0 : Int) → (iq_P N xs 48 0 [some (iq_r 4), some (iq_i v4), some (iq_i v5)] [] g16 l17 (fun r g22 l23 => ∃ z24, r = some (iq_i z24) ∧ ((-2147483648 ≤ z24 ∧ z24 ≤ 2147483647) ∧
                          (¬ z24 = (0 : Int) → ((0 ≤ v2 ∧ 0 ≤ v4 ∧ 0 ≤ v5 ∧ v2 + v5 ≤ 60 ∧ v4 + v5 ≤ 60) ∧ (iq_P N xs 49 133 [some (iq_r 0), some (iq_i v1), some (iq_i v2), some (iq_i v3), some (iq_i v4), some (iq_i v5), some (iq_r 2), some (iq_r 4)] [] g22 (iq_rz l23 5 (iq_cz (l23 3) (l23 5) v2 v4 v5)) Q))) ∧
                          (z24 = (0 : Int) → (iq_P N xs 28 0 [some (iq_r 0), some (iq_i 3)] [] g22 l23 (fun r g25 l26 => ∃ z27, r = some (iq_i z27) ∧ ((z27 = 0 ∨ z27 = 1) ∧ Q (some (iq_i z27)) g25 l26)))))))))))) ∧
                  (¬ (g13 2 1) = (g13 4 1) → (iq_P N xs 28 0 [some (iq_r 0), some (iq_i 8)] [] g13 l14 (fun r g28 l29 => ∃ z30, r = some (iq_i z30) ∧ ((z30 = 0 ∨ z30 = 1) ∧ Q (some (iq_i z30)) g28 l29)))))) ∧
                (¬ z15 = (0 : Int) → (iq_P N xs 28 0 [some (iq_r 0), some (iq_i 2)] [] g13 l14 (fun r g31 l32 => ∃ z33, r = some (iq_i z33) ∧ ((z33 = 0 ∨ z33 = 1) ∧ Q (some (iq_i z33)) g31 l32)))))))))))) ∧
        (v5 < (0 : Int) → (iq_P N xs 28 0 [some (iq_r 0), some (iq_i 1)] [] g l (fun r g34 l35 => ∃ z36, r = some (iq_i z36) ∧ ((z36 = 0 ∨ z36 = 1) ∧ Q (some (iq_i z36)) g34 l35))))))))) :
    iq_P N xs 49 12 [some (iq_r 0), some (iq_i v1), some (iq_i v2), some (iq_i v3), some (iq_i v4), some (iq_i v5), some (iq_r 2), none] [iq_r 4] g l Q := iq_w_ok (cuts := [133]) 40 12 _ _ _ _ H

-- ScaleForge.pour(IIIII)Z at 12
set_option maxRecDepth 20000 in
theorem B49_q12_6_2 {N : Nat} {xs : Nat → Int32} {Q : iq_T} (v1 : Int) (v2 : Int) (v3 : Int) (v4 : Int) (v5 : Int) (g : iq_I) (l : iq_J) (H : (-2147483648 ≤ v2 ∧ v2 ≤ 2147483647) ∧
    (v2 < (0 : Int) → (iq_P N xs 28 0 [some (iq_r 0), some (iq_i 1)] [] g l (fun r g1 l2 => ∃ z3, r = some (iq_i z3) ∧ ((z3 = 0 ∨ z3 = 1) ∧ Q (some (iq_i z3)) g1 l2)))) ∧
    ((0 : Int) ≤ v2 → ((-2147483648 ≤ v4 ∧ v4 ≤ 2147483647) ∧
      (v4 < (0 : Int) → (iq_P N xs 28 0 [some (iq_r 0), some (iq_i 1)] [] g l (fun r g4 l5 => ∃ z6, r = some (iq_i z6) ∧ ((z6 = 0 ∨ z6 = 1) ∧ Q (some (iq_i z6)) g4 l5)))) ∧
      ((0 : Int) ≤ v4 → ((-2147483648 ≤ v5 ∧ v5 ≤ 2147483647) ∧
        ((0 : Int) ≤ v5 → (iq_P N xs 35 0 [some (iq_r 2)] [] g l (fun r g7 l8 => ∃ z9, r = some (iq_i z9) ∧ ((-2147483648 ≤ z9 ∧ z9 ≤ 2147483647) ∧
            (¬ z9 = (0 : Int) → (iq_P N xs 28 0 [some (iq_r 0), some (iq_i 2)] [] g7 l8 (fun r g10 l11 => ∃ z12, r = some (iq_i z12) ∧ ((z12 = 0 ∨ z12 = 1) ∧ Q (some (iq_i z12)) g10 l11)))) ∧
            (z9 = (0 : Int) → (iq_P N xs 35 0 [some (iq_r 6)] [] g7 l8 (fun r g13 l14 => ∃ z15, r = some (iq_i z15) ∧ ((-2147483648 ≤ z15 ∧ z15 ≤ 2147483647) ∧
                (z15 = (0 : Int) → ((-2147483648 ≤ (g13 2 1) ∧ (g13 2 1) ≤ 2147483647 ∧ -2147483648 ≤ (g13 6 1) ∧ (g13 6 1) ≤ 2147483647) ∧
                  ((g13 2 1) = (g13 6 1) → (iq_P N xs 48 0 [some (iq_r 2), some (iq_i v2), some (iq_i v5)] [] g13 l14 (fun r g16 l17 => ∃ z18, r = some (iq_i z18) ∧ ((-2147483648 ≤ z18 ∧ z18 ≤ 2147483647) ∧
                      (z18 = (0 : Int) → (iq_P N xs 28 0 [some (iq_r 0), some (iq_i 3)] [] g16 l17 (fun r g19 l20 => ∃ z21, r = some (iq_i z21) ∧ ((z21 = 0 ∨ z21 = 1) ∧ Q (some (iq_i z21)) g19 l20)))) ∧
                      (¬ z18 = (0 : Int) → (iq_P N xs 48 0 [some (iq_r 6), some (iq_i v4), some (iq_i v5)] [] g16 l17 (fun r g22 l23 => ∃ z24, r = some (iq_i z24) ∧ ((-2147483648 ≤ z24 ∧ z24 ≤ 2147483647) ∧
                          (¬ z24 = (0 : Int) → ((0 ≤ v2 ∧ 0 ≤ v4 ∧ 0 ≤ v5 ∧ v2 + v5 ≤ 60 ∧ v4 + v5 ≤ 60) ∧ (iq_P N xs 49 133 [some (iq_r 0), some (iq_i v1), some (iq_i v2), some (iq_i v3), some (iq_i v4), some (iq_i v5), some (iq_r 2), some (iq_r 6)] [] g22 (iq_rz l23 7 (iq_cz (l23 3) (l23 7) v2 v4 v5)) Q))) ∧
                          (z24 = (0 : Int) → (iq_P N xs 28 0 [some (iq_r 0), some (iq_i 3)] [] g22 l23 (fun r g25 l26 => ∃ z27, r = some (iq_i z27) ∧ ((z27 = 0 ∨ z27 = 1) ∧ Q (some (iq_i z27)) g25 l26)))))))))))) ∧
                  (¬ (g13 2 1) = (g13 6 1) → (iq_P N xs 28 0 [some (iq_r 0), some (iq_i 8)] [] g13 l14 (fun r g28 l29 => ∃ z30, r = some (iq_i z30) ∧ ((z30 = 0 ∨ z30 = 1) ∧ Q (some (iq_i z30)) g28 l29)))))) ∧
                (¬ z15 = (0 : Int) → (iq_P N xs 28 0 [some (iq_r 0), some (iq_i 2)] [] g13 l14 (fun r g31 l32 => ∃ z33, r = some (iq_i z33) ∧ ((z33 = 0 ∨ z33 = 1) ∧ Q (some (iq_i z33)) g31 l32)))))))))))) ∧
        (v5 < (0 : Int) → (iq_P N xs 28 0 [some (iq_r 0), some (iq_i 1)] [] g l (fun r g34 l35 => ∃ z36, r = some (iq_i z36) ∧ ((z36 = 0 ∨ z36 = 1) ∧ Q (some (iq_i z36)) g34 l35))))))))) :
    iq_P N xs 49 12 [some (iq_r 0), some (iq_i v1), some (iq_i v2), some (iq_i v3), some (iq_i v4), some (iq_i v5), some (iq_r 2), none] [iq_r 6] g l Q := iq_w_ok (cuts := [133]) 40 12 _ _ _ _ H

-- ScaleForge.pour(IIIII)Z at 12
set_option maxRecDepth 20000 in
theorem B49_q12_8_2 {N : Nat} {xs : Nat → Int32} {Q : iq_T} (v1 : Int) (v2 : Int) (v3 : Int) (v4 : Int) (v5 : Int) (g : iq_I) (l : iq_J) (H : (-2147483648 ≤ v2 ∧ v2 ≤ 2147483647) ∧
    (v2 < (0 : Int) → (iq_P N xs 28 0 [some (iq_r 0), some (iq_i 1)] [] g l (fun r g1 l2 => ∃ z3, r = some (iq_i z3) ∧ ((z3 = 0 ∨ z3 = 1) ∧ Q (some (iq_i z3)) g1 l2)))) ∧
    ((0 : Int) ≤ v2 → ((-2147483648 ≤ v4 ∧ v4 ≤ 2147483647) ∧
      (v4 < (0 : Int) → (iq_P N xs 28 0 [some (iq_r 0), some (iq_i 1)] [] g l (fun r g4 l5 => ∃ z6, r = some (iq_i z6) ∧ ((z6 = 0 ∨ z6 = 1) ∧ Q (some (iq_i z6)) g4 l5)))) ∧
      ((0 : Int) ≤ v4 → ((-2147483648 ≤ v5 ∧ v5 ≤ 2147483647) ∧
        ((0 : Int) ≤ v5 → (iq_P N xs 35 0 [some (iq_r 2)] [] g l (fun r g7 l8 => ∃ z9, r = some (iq_i z9) ∧ ((-2147483648 ≤ z9 ∧ z9 ≤ 2147483647) ∧
            (¬ z9 = (0 : Int) → (iq_P N xs 28 0 [some (iq_r 0), some (iq_i 2)] [] g7 l8 (fun r g10 l11 => ∃ z12, r = some (iq_i z12) ∧ ((z12 = 0 ∨ z12 = 1) ∧ Q (some (iq_i z12)) g10 l11)))) ∧
            (z9 = (0 : Int) → (iq_P N xs 35 0 [some (iq_r 8)] [] g7 l8 (fun r g13 l14 => ∃ z15, r = some (iq_i z15) ∧ ((-2147483648 ≤ z15 ∧ z15 ≤ 2147483647) ∧
                (z15 = (0 : Int) → ((-2147483648 ≤ (g13 2 1) ∧ (g13 2 1) ≤ 2147483647 ∧ -2147483648 ≤ (g13 8 1) ∧ (g13 8 1) ≤ 2147483647) ∧
                  ((g13 2 1) = (g13 8 1) → (iq_P N xs 48 0 [some (iq_r 2), some (iq_i v2), some (iq_i v5)] [] g13 l14 (fun r g16 l17 => ∃ z18, r = some (iq_i z18) ∧ ((-2147483648 ≤ z18 ∧ z18 ≤ 2147483647) ∧
                      (z18 = (0 : Int) → (iq_P N xs 28 0 [some (iq_r 0), some (iq_i 3)] [] g16 l17 (fun r g19 l20 => ∃ z21, r = some (iq_i z21) ∧ ((z21 = 0 ∨ z21 = 1) ∧ Q (some (iq_i z21)) g19 l20)))) ∧
                      (¬ z18 = (0 : Int) → (iq_P N xs 48 0 [some (iq_r 8), some (iq_i v4), some (iq_i v5)] [] g16 l17 (fun r g22 l23 => ∃ z24, r = some (iq_i z24) ∧ ((-2147483648 ≤ z24 ∧ z24 ≤ 2147483647) ∧
                          (¬ z24 = (0 : Int) → ((0 ≤ v2 ∧ 0 ≤ v4 ∧ 0 ≤ v5 ∧ v2 + v5 ≤ 60 ∧ v4 + v5 ≤ 60) ∧ (iq_P N xs 49 133 [some (iq_r 0), some (iq_i v1), some (iq_i v2), some (iq_i v3), some (iq_i v4), some (iq_i v5), some (iq_r 2), some (iq_r 8)] [] g22 (iq_rz l23 9 (iq_cz (l23 3) (l23 9) v2 v4 v5)) Q))) ∧
                          (z24 = (0 : Int) → (iq_P N xs 28 0 [some (iq_r 0), some (iq_i 3)] [] g22 l23 (fun r g25 l26 => ∃ z27, r = some (iq_i z27) ∧ ((z27 = 0 ∨ z27 = 1) ∧ Q (some (iq_i z27)) g25 l26)))))))))))) ∧
                  (¬ (g13 2 1) = (g13 8 1) → (iq_P N xs 28 0 [some (iq_r 0), some (iq_i 8)] [] g13 l14 (fun r g28 l29 => ∃ z30, r = some (iq_i z30) ∧ ((z30 = 0 ∨ z30 = 1) ∧ Q (some (iq_i z30)) g28 l29)))))) ∧
                (¬ z15 = (0 : Int) → (iq_P N xs 28 0 [some (iq_r 0), some (iq_i 2)] [] g13 l14 (fun r g31 l32 => ∃ z33, r = some (iq_i z33) ∧ ((z33 = 0 ∨ z33 = 1) ∧ Q (some (iq_i z33)) g31 l32)))))))))))) ∧
        (v5 < (0 : Int) → (iq_P N xs 28 0 [some (iq_r 0), some (iq_i 1)] [] g l (fun r g34 l35 => ∃ z36, r = some (iq_i z36) ∧ ((z36 = 0 ∨ z36 = 1) ∧ Q (some (iq_i z36)) g34 l35))))))))) :
    iq_P N xs 49 12 [some (iq_r 0), some (iq_i v1), some (iq_i v2), some (iq_i v3), some (iq_i v4), some (iq_i v5), some (iq_r 2), none] [iq_r 8] g l Q := iq_w_ok (cuts := [133]) 40 12 _ _ _ _ H

-- ScaleForge.pour(IIIII)Z at 12
set_option maxRecDepth 20000 in
theorem B49_q12_null_null {N : Nat} {xs : Nat → Int32} {Q : iq_T} (v1 : Int) (v2 : Int) (v3 : Int) (v4 : Int) (v5 : Int) (g : iq_I) (l : iq_J) (H : iq_P N xs 28 0 [some (iq_r 0), some (iq_i 1)] [] g l (fun r g1 l2 => ∃ z3, r = some (iq_i z3) ∧ ((z3 = 0 ∨ z3 = 1) ∧ Q (some (iq_i z3)) g1 l2))) :
    iq_P N xs 49 12 [some (iq_r 0), some (iq_i v1), some (iq_i v2), some (iq_i v3), some (iq_i v4), some (iq_i v5), some (iq_n), none] [iq_n] g l Q := iq_w_ok (cuts := []) 7 12 _ _ _ _ H

-- ScaleForge.pour(IIIII)Z at 12
set_option maxRecDepth 20000 in
theorem B49_q12_2_null {N : Nat} {xs : Nat → Int32} {Q : iq_T} (v1 : Int) (v2 : Int) (v3 : Int) (v4 : Int) (v5 : Int) (g : iq_I) (l : iq_J) (H : iq_P N xs 28 0 [some (iq_r 0), some (iq_i 1)] [] g l (fun r g1 l2 => ∃ z3, r = some (iq_i z3) ∧ ((z3 = 0 ∨ z3 = 1) ∧ Q (some (iq_i z3)) g1 l2))) :
    iq_P N xs 49 12 [some (iq_r 0), some (iq_i v1), some (iq_i v2), some (iq_i v3), some (iq_i v4), some (iq_i v5), some (iq_n), none] [iq_r 2] g l Q := iq_w_ok (cuts := []) 7 12 _ _ _ _ H

-- ScaleForge.pour(IIIII)Z at 12
set_option maxRecDepth 20000 in
theorem B49_q12_4_null {N : Nat} {xs : Nat → Int32} {Q : iq_T} (v1 : Int) (v2 : Int) (v3 : Int) (v4 : Int) (v5 : Int) (g : iq_I) (l : iq_J) (H : iq_P N xs 28 0 [some (iq_r 0), some (iq_i 1)] [] g l (fun r g1 l2 => ∃ z3, r = some (iq_i z3) ∧ ((z3 = 0 ∨ z3 = 1) ∧ Q (some (iq_i z3)) g1 l2))) :
    iq_P N xs 49 12 [some (iq_r 0), some (iq_i v1), some (iq_i v2), some (iq_i v3), some (iq_i v4), some (iq_i v5), some (iq_n), none] [iq_r 4] g l Q := iq_w_ok (cuts := []) 7 12 _ _ _ _ H

-- ScaleForge.pour(IIIII)Z at 12
set_option maxRecDepth 20000 in
theorem B49_q12_6_null {N : Nat} {xs : Nat → Int32} {Q : iq_T} (v1 : Int) (v2 : Int) (v3 : Int) (v4 : Int) (v5 : Int) (g : iq_I) (l : iq_J) (H : iq_P N xs 28 0 [some (iq_r 0), some (iq_i 1)] [] g l (fun r g1 l2 => ∃ z3, r = some (iq_i z3) ∧ ((z3 = 0 ∨ z3 = 1) ∧ Q (some (iq_i z3)) g1 l2))) :
    iq_P N xs 49 12 [some (iq_r 0), some (iq_i v1), some (iq_i v2), some (iq_i v3), some (iq_i v4), some (iq_i v5), some (iq_n), none] [iq_r 6] g l Q := iq_w_ok (cuts := []) 7 12 _ _ _ _ H

-- ScaleForge.pour(IIIII)Z at 12
set_option maxRecDepth 20000 in
theorem B49_q12_8_null {N : Nat} {xs : Nat → Int32} {Q : iq_T} (v1 : Int) (v2 : Int) (v3 : Int) (v4 : Int) (v5 : Int) (g : iq_I) (l : iq_J) (H : iq_P N xs 28 0 [some (iq_r 0), some (iq_i 1)] [] g l (fun r g1 l2 => ∃ z3, r = some (iq_i z3) ∧ ((z3 = 0 ∨ z3 = 1) ∧ Q (some (iq_i z3)) g1 l2))) :
    iq_P N xs 49 12 [some (iq_r 0), some (iq_i v1), some (iq_i v2), some (iq_i v3), some (iq_i v4), some (iq_i v5), some (iq_n), none] [iq_r 8] g l Q := iq_w_ok (cuts := []) 7 12 _ _ _ _ H

-- ScaleForgeModel.pour(IIIII)Z at 0
set_option maxRecDepth 20000 in
theorem B50_77 {N : Nat} {xs : Nat → Int32} {Q : iq_T} (a0 : Int) (a1 : Int) (a2 : Int) (a3 : Int) (a4 : Int) (g : iq_I) (l : iq_J) (H : iq_P N xs 32 0 [some (iq_i a0)] [] g l (fun r g1 l2 => ∃ z3, r = some (iq_i z3) ∧ ((-2147483648 ≤ z3 ∧ z3 ≤ 2147483647) ∧
      (z3 = (0 : Int) → (iq_P N xs 33 0 [some (iq_r 77), some (iq_i 1)] [] g1 l2 (fun r g4 l5 => ∃ z6, r = some (iq_i z6) ∧ ((z6 = 0 ∨ z6 = 1) ∧ Q (some (iq_i z6)) g4 l5)))) ∧
      (¬ z3 = (0 : Int) → (iq_P N xs 32 0 [some (iq_i a2)] [] g1 l2 (fun r g7 l8 => ∃ z9, r = some (iq_i z9) ∧ ((-2147483648 ≤ z9 ∧ z9 ≤ 2147483647) ∧
          (z9 = (0 : Int) → (iq_P N xs 33 0 [some (iq_r 77), some (iq_i 1)] [] g7 l8 (fun r g10 l11 => ∃ z12, r = some (iq_i z12) ∧ ((z12 = 0 ∨ z12 = 1) ∧ Q (some (iq_i z12)) g10 l11)))) ∧
          (¬ z9 = (0 : Int) → ((-2147483648 ≤ a1 ∧ a1 ≤ 2147483647) ∧
            (a1 < (0 : Int) → (iq_P N xs 33 0 [some (iq_r 77), some (iq_i 1)] [] g7 l8 (fun r g13 l14 => ∃ z15, r = some (iq_i z15) ∧ ((z15 = 0 ∨ z15 = 1) ∧ Q (some (iq_i z15)) g13 l14)))) ∧
            ((0 : Int) ≤ a1 → ((-2147483648 ≤ a3 ∧ a3 ≤ 2147483647) ∧
              (a3 < (0 : Int) → (iq_P N xs 33 0 [some (iq_r 77), some (iq_i 1)] [] g7 l8 (fun r g16 l17 => ∃ z18, r = some (iq_i z18) ∧ ((z18 = 0 ∨ z18 = 1) ∧ Q (some (iq_i z18)) g16 l17)))) ∧
              ((0 : Int) ≤ a3 → ((-2147483648 ≤ a4 ∧ a4 ≤ 2147483647) ∧
                ((0 : Int) ≤ a4 → ((0 ≤ a0 ∧ a0 < 4) ∧ ((-2147483648 ≤ (g7 80 a0) ∧ (g7 80 a0) ≤ 2147483647) ∧
                  ((g7 80 a0) = (-1 : Int) → (iq_P N xs 33 0 [some (iq_r 77), some (iq_i 2)] [] g7 l8 (fun r g19 l20 => ∃ z21, r = some (iq_i z21) ∧ ((z21 = 0 ∨ z21 = 1) ∧ Q (some (iq_i z21)) g19 l20)))) ∧
                  (¬ (g7 80 a0) = (-1 : Int) → ((0 ≤ a2 ∧ a2 < 4) ∧ ((-2147483648 ≤ (g7 80 a2) ∧ (g7 80 a2) ≤ 2147483647) ∧
                    (¬ (g7 80 a2) = (-1 : Int) → ((0 ≤ a0 ∧ a0 < 4) ∧ ((0 ≤ a2 ∧ a2 < 4) ∧ ((-2147483648 ≤ (g7 79 a0) ∧ (g7 79 a0) ≤ 2147483647 ∧ -2147483648 ≤ (g7 79 a2) ∧ (g7 79 a2) ≤ 2147483647) ∧
                      ((g7 79 a0) = (g7 79 a2) → ((0 ≤ a0 ∧ a0 < 4) ∧ ((-2147483648 ≤ a4 ∧ a4 ≤ 2147483647 ∧ -2147483648 ≤ ((g7 80 a0) - a1) ∧ ((g7 80 a0) - a1) ≤ 2147483647) ∧
                        (((g7 80 a0) - a1) < a4 → (iq_P N xs 50 109 [some (iq_r 77), some (iq_i a0), some (iq_i a1), some (iq_i a2), some (iq_i a3), some (iq_i a4), none, none] [] g7 l8 Q)) ∧
                        (a4 ≤ ((g7 80 a0) - a1) → (iq_P N xs 50 95 [some (iq_r 77), some (iq_i a0), some (iq_i a1), some (iq_i a2), some (iq_i a3), some (iq_i a4), none, none] [] g7 l8 Q))))) ∧
                      (¬ (g7 79 a0) = (g7 79 a2) → (iq_P N xs 33 0 [some (iq_r 77), some (iq_i 8)] [] g7 l8 (fun r g22 l23 => ∃ z24, r = some (iq_i z24) ∧ ((z24 = 0 ∨ z24 = 1) ∧ Q (some (iq_i z24)) g22 l23)))))))) ∧
                    ((g7 80 a2) = (-1 : Int) → (iq_P N xs 33 0 [some (iq_r 77), some (iq_i 2)] [] g7 l8 (fun r g25 l26 => ∃ z27, r = some (iq_i z27) ∧ ((z27 = 0 ∨ z27 = 1) ∧ Q (some (iq_i z27)) g25 l26)))))))))) ∧
                (a4 < (0 : Int) → (iq_P N xs 33 0 [some (iq_r 77), some (iq_i 1)] [] g7 l8 (fun r g28 l29 => ∃ z30, r = some (iq_i z30) ∧ ((z30 = 0 ∨ z30 = 1) ∧ Q (some (iq_i z30)) g28 l29))))))))))))))))) :
    iq_P N xs 50 0 [some (iq_r 77), some (iq_i a0), some (iq_i a1), some (iq_i a2), some (iq_i a3), some (iq_i a4), none, none] [] g l Q := iq_w_ok (cuts := [95, 109, 118, 177]) 41 0 _ _ _ _ H

-- ScaleForgeModel.pour(IIIII)Z at 95
set_option maxRecDepth 20000 in
theorem B50_p95_77 {N : Nat} {xs : Nat → Int32} {Q : iq_T} (v1 : Int) (v2 : Int) (v3 : Int) (v4 : Int) (v5 : Int) (g : iq_I) (l : iq_J) (H : (0 ≤ v3 ∧ v3 < 4) ∧ ((-2147483648 ≤ v5 ∧ v5 ≤ 2147483647 ∧ -2147483648 ≤ ((g 80 v3) - v4) ∧ ((g 80 v3) - v4) ≤ 2147483647) ∧
    (v5 ≤ ((g 80 v3) - v4) → (iq_P N xs 50 118 [some (iq_r 77), some (iq_i v1), some (iq_i v2), some (iq_i v3), some (iq_i v4), some (iq_i v5), some (iq_i 0), none] [] g l Q)) ∧
    (((g 80 v3) - v4) < v5 → (iq_P N xs 50 109 [some (iq_r 77), some (iq_i v1), some (iq_i v2), some (iq_i v3), some (iq_i v4), some (iq_i v5), none, none] [] g l Q)))) :
    iq_P N xs 50 95 [some (iq_r 77), some (iq_i v1), some (iq_i v2), some (iq_i v3), some (iq_i v4), some (iq_i v5), none, none] [] g l Q := iq_w_ok (cuts := [95, 109, 118, 177]) 10 95 _ _ _ _ H

-- ScaleForgeModel.pour(IIIII)Z at 109
set_option maxRecDepth 20000 in
theorem B50_p109_77 {N : Nat} {xs : Nat → Int32} {Q : iq_T} (v1 : Int) (v2 : Int) (v3 : Int) (v4 : Int) (v5 : Int) (g : iq_I) (l : iq_J) (H : iq_P N xs 33 0 [some (iq_r 77), some (iq_i 3)] [] g l (fun r g1 l2 => ∃ z3, r = some (iq_i z3) ∧ ((z3 = 0 ∨ z3 = 1) ∧ Q (some (iq_i z3)) g1 l2))) :
    iq_P N xs 50 109 [some (iq_r 77), some (iq_i v1), some (iq_i v2), some (iq_i v3), some (iq_i v4), some (iq_i v5), none, none] [] g l Q := iq_w_ok (cuts := [95, 109, 118, 177]) 4 109 _ _ _ _ H

-- ScaleForgeModel.pour(IIIII)Z at 118
set_option maxRecDepth 20000 in
theorem B50_p118_77 {N : Nat} {xs : Nat → Int32} {Q : iq_T} (v1 : Int) (v2 : Int) (v3 : Int) (v4 : Int) (v5 : Int) (v6 : Int) (d7 : Option iq_V) (g : iq_I) (l : iq_J) (H : (-2147483648 ≤ v6 ∧ v6 ≤ 2147483647 ∧ -2147483648 ≤ v5 ∧ v5 ≤ 2147483647) ∧
    (v5 ≤ v6 → (iq_P N xs 33 0 [some (iq_r 77), some (iq_i 0)] [] g l (fun r g1 l2 => ∃ z3, r = some (iq_i z3) ∧ ((z3 = 0 ∨ z3 = 1) ∧ Q (some (iq_i z3)) g1 l2)))) ∧
    (v6 < v5 → ((-2147483648 ≤ v2 ∧ v2 ≤ 2147483647 ∧ -2147483648 ≤ v4 ∧ v4 ≤ 2147483647) ∧
      (v4 ≤ v2 → ((0 ≤ (((60 * v1) + v2) + v6) ∧ (((60 * v1) + v2) + v6) < 240) ∧ ((0 ≤ (((60 * v3) + v4) + v6) ∧ (((60 * v3) + v4) + v6) < 240) ∧ (iq_P N xs 50 177 [some (iq_r 77), some (iq_i v1), some (iq_i v2), some (iq_i v3), some (iq_i v4), some (iq_i v5), some (iq_i (v6 + 1)), some (iq_i v6)] [] g (iq_uz l 81 (((60 * v3) + v4) + v6) (l 81 (((60 * v1) + v2) + v6))) Q)))) ∧
      (v2 < v4 → ((0 ≤ (((60 * v1) + v2) + ((v5 - 1) - v6)) ∧ (((60 * v1) + v2) + ((v5 - 1) - v6)) < 240) ∧ ((0 ≤ (((60 * v3) + v4) + ((v5 - 1) - v6)) ∧ (((60 * v3) + v4) + ((v5 - 1) - v6)) < 240) ∧ (iq_P N xs 50 177 [some (iq_r 77), some (iq_i v1), some (iq_i v2), some (iq_i v3), some (iq_i v4), some (iq_i v5), some (iq_i (v6 + 1)), some (iq_i ((v5 - 1) - v6))] [] g (iq_uz l 81 (((60 * v3) + v4) + ((v5 - 1) - v6)) (l 81 (((60 * v1) + v2) + ((v5 - 1) - v6)))) Q))))))) :
    iq_P N xs 50 118 [some (iq_r 77), some (iq_i v1), some (iq_i v2), some (iq_i v3), some (iq_i v4), some (iq_i v5), some (iq_i v6), d7] [] g l Q := iq_w_ok (cuts := [95, 109, 118, 177]) 34 118 _ _ _ _ H

-- ScaleForgeModel.pour(IIIII)Z at 177
set_option maxRecDepth 20000 in
theorem B50_p177_77 {N : Nat} {xs : Nat → Int32} {Q : iq_T} (v1 : Int) (v2 : Int) (v3 : Int) (v4 : Int) (v5 : Int) (v6 : Int) (v7 : Int) (g : iq_I) (l : iq_J) (H : iq_P N xs 50 118 [some (iq_r 77), some (iq_i v1), some (iq_i v2), some (iq_i v3), some (iq_i v4), some (iq_i v5), some (iq_i v6), some (iq_i v7)] [] g l Q) :
    iq_P N xs 50 177 [some (iq_r 77), some (iq_i v1), some (iq_i v2), some (iq_i v3), some (iq_i v4), some (iq_i v5), some (iq_i v6), some (iq_i v7)] [] g l Q := iq_w_ok (cuts := [95, 109, 118, 177]) 1 177 _ _ _ _ H

-- ScaleForge$Reader.append(I)V at 0
set_option maxRecDepth 20000 in
theorem B51_10 {N : Nat} {xs : Nat → Int32} {Q : iq_T} (a0 : Int) (g : iq_I) (l : iq_J) (H : iq_P N xs 51 3 [some (iq_r 10), some (iq_i a0), some (iq_i 24)] [] g l Q) :
    iq_P N xs 51 0 [some (iq_r 10), some (iq_i a0), none] [] g l Q := iq_w_ok (cuts := [3]) 2 0 _ _ _ _ H

-- ScaleForge$Reader.append(I)V at 3
set_option maxRecDepth 20000 in
theorem B51_p3_10 {N : Nat} {xs : Nat → Int32} {Q : iq_T} (v1 : Int) (v2 : Int) (g : iq_I) (l : iq_J) (H : (-2147483648 ≤ v2 ∧ v2 ≤ 2147483647) ∧
    (v2 < (0 : Int) → (Q (none) g l)) ∧
    ((0 : Int) ≤ v2 → ((-2147483648 ≤ (g 10 1) ∧ (g 10 1) ≤ 2147483647) ∧
      ((900 : Int) ≤ (g 10 1) → (Q (none) g l)) ∧
      ((g 10 1) < (900 : Int) → ((0 ≤ (g 10 1) ∧ (g 10 1) < 900) ∧ (iq_P N xs 51 3 [some (iq_r 10), some (iq_i v1), some (iq_i (v2 + (-8)))] [] (iq_uz (iq_uz g 11 (g 10 1) (iq_i2b (iq_i2b (iq_shr v1 v2)))) 10 1 ((g 10 1) + 1)) l Q)))))) :
    iq_P N xs 51 3 [some (iq_r 10), some (iq_i v1), some (iq_i v2)] [] g l Q := iq_w_ok (cuts := [3]) 25 3 _ _ _ _ H

-- ScaleForge.feed(IIIII)I at 0
set_option maxRecDepth 20000 in
theorem B52_0 {N : Nat} {xs : Nat → Int32} {Q : iq_T} (a0 : Int) (a1 : Int) (a2 : Int) (a3 : Int) (a4 : Int) (g : iq_I) (l : iq_J) (H : (-2147483648 ≤ ((g 10 1) + 20) ∧ ((g 10 1) + 20) ≤ 2147483647) ∧
    (((g 10 1) + 20) ≤ (900 : Int) → (iq_P N xs 51 0 [some (iq_r 10), some (iq_i a0), none] [] g l (fun r g1 l2 => r = none ∧ (iq_P N xs 51 0 [some (iq_r 10), some (iq_i a1), none] [] g1 l2 (fun r g3 l4 => r = none ∧ (iq_P N xs 51 0 [some (iq_r 10), some (iq_i a2), none] [] g3 l4 (fun r g5 l6 => r = none ∧ (iq_P N xs 51 0 [some (iq_r 10), some (iq_i a3), none] [] g5 l6 (fun r g7 l8 => r = none ∧ (iq_P N xs 51 0 [some (iq_r 10), some (iq_i a4), none] [] g7 l8 (fun r g9 l10 => r = none ∧ (Q (some (iq_i (g9 10 1))) g9 l10)))))))))))) ∧
    ((900 : Int) < ((g 10 1) + 20) → (Q (some (iq_i (-1))) g l))) :
    iq_P N xs 52 0 [some (iq_r 0), some (iq_i a0), some (iq_i a1), some (iq_i a2), some (iq_i a3), some (iq_i a4)] [] g l Q := iq_w_ok (cuts := []) 31 0 _ _ _ _ H

-- ScaleForgeModel.four(I)V at 0
set_option maxRecDepth 20000 in
theorem B53_77 {N : Nat} {xs : Nat → Int32} {Q : iq_T} (a0 : Int) (g : iq_I) (l : iq_J) (H : iq_P N xs 53 3 [some (iq_r 77), some (iq_i a0), some (iq_i 24)] [] g l Q) :
    iq_P N xs 53 0 [some (iq_r 77), some (iq_i a0), none] [] g l Q := iq_w_ok (cuts := [3]) 2 0 _ _ _ _ H

-- ScaleForgeModel.four(I)V at 3
set_option maxRecDepth 20000 in
theorem B53_p3_77 {N : Nat} {xs : Nat → Int32} {Q : iq_T} (v1 : Int) (v2 : Int) (g : iq_I) (l : iq_J) (H : (-2147483648 ≤ v2 ∧ v2 ≤ 2147483647) ∧
    (v2 < (0 : Int) → (Q (none) g l)) ∧
    ((0 : Int) ≤ v2 → ((0 ≤ (g 77 9) ∧ (g 77 9) < 900) ∧ (iq_P N xs 53 3 [some (iq_r 77), some (iq_i v1), some (iq_i (v2 + (-8)))] [] (iq_uz (iq_uz g 82 (g 77 9) (iq_i2b (iq_i2b (iq_shr v1 v2)))) 77 9 ((g 77 9) + 1)) l Q)))) :
    iq_P N xs 53 3 [some (iq_r 77), some (iq_i v1), some (iq_i v2)] [] g l Q := iq_w_ok (cuts := [3]) 19 3 _ _ _ _ H

-- ScaleForgeModel.feed(IIIII)I at 0
set_option maxRecDepth 20000 in
theorem B54_77 {N : Nat} {xs : Nat → Int32} {Q : iq_T} (a0 : Int) (a1 : Int) (a2 : Int) (a3 : Int) (a4 : Int) (g : iq_I) (l : iq_J) (H : (-2147483648 ≤ ((g 77 9) + 20) ∧ ((g 77 9) + 20) ≤ 2147483647) ∧
    (((g 77 9) + 20) ≤ (900 : Int) → (iq_P N xs 53 0 [some (iq_r 77), some (iq_i a0), none] [] g l (fun r g1 l2 => r = none ∧ (iq_P N xs 53 0 [some (iq_r 77), some (iq_i a1), none] [] g1 l2 (fun r g3 l4 => r = none ∧ (iq_P N xs 53 0 [some (iq_r 77), some (iq_i a2), none] [] g3 l4 (fun r g5 l6 => r = none ∧ (iq_P N xs 53 0 [some (iq_r 77), some (iq_i a3), none] [] g5 l6 (fun r g7 l8 => r = none ∧ (iq_P N xs 53 0 [some (iq_r 77), some (iq_i a4), none] [] g7 l8 (fun r g9 l10 => r = none ∧ (Q (some (iq_i (g9 77 9))) g9 l10)))))))))))) ∧
    ((900 : Int) < ((g 77 9) + 20) → (Q (some (iq_i (-1))) g l))) :
    iq_P N xs 54 0 [some (iq_r 77), some (iq_i a0), some (iq_i a1), some (iq_i a2), some (iq_i a3), some (iq_i a4)] [] g l Q := iq_w_ok (cuts := []) 24 0 _ _ _ _ H

-- ScaleForge$Reader.begin(I)V at 0
set_option maxRecDepth 20000 in
theorem B55_10 {N : Nat} {xs : Nat → Int32} {Q : iq_T} (a0 : Int) (g : iq_I) (l : iq_J) (H : Q (none) (iq_uz (iq_uz (iq_uz (iq_uz g 10 2 a0) 10 3 0) 10 7 0) 10 8 (-1)) l) :
    iq_P N xs 55 0 [some (iq_r 10), some (iq_i a0)] [] g l Q := iq_w_ok (cuts := []) 13 0 _ _ _ _ H

-- ScaleForge$Reader.byteAt(I)I at 0
set_option maxRecDepth 20000 in
theorem B56_10 {N : Nat} {xs : Nat → Int32} {Q : iq_T} (a0 : Int) (g : iq_I) (l : iq_J) (H : (-2147483648 ≤ a0 ∧ a0 ≤ 2147483647) ∧
    (a0 < (0 : Int) → (Q (some (iq_i 0)) g l)) ∧
    ((0 : Int) ≤ a0 → ((-2147483648 ≤ a0 ∧ a0 ≤ 2147483647) ∧
      ((900 : Int) ≤ a0 → (Q (some (iq_i 0)) g l)) ∧
      (a0 < (900 : Int) → ((0 ≤ a0 ∧ a0 < 900) ∧ (Q (some (iq_i (iq_and (g 11 a0) 255))) g l)))))) :
    iq_P N xs 56 0 [some (iq_r 10), some (iq_i a0)] [] g l Q := iq_w_ok (cuts := []) 15 0 _ _ _ _ H

-- ScaleForge$Reader.isBlank(I)Z at 0
set_option maxRecDepth 20000 in
theorem B57 {N : Nat} {xs : Nat → Int32} {Q : iq_T} (a0 : Int) (g : iq_I) (l : iq_J) (H : (-2147483648 ≤ a0 ∧ a0 ≤ 2147483647) ∧
    (a0 = (10 : Int) → (Q (some (iq_i 1)) g l)) ∧
    (¬ a0 = (10 : Int) → ((-2147483648 ≤ a0 ∧ a0 ≤ 2147483647) ∧
      (¬ a0 = (32 : Int) → (Q (some (iq_i 0)) g l)) ∧
      (a0 = (32 : Int) → (Q (some (iq_i 1)) g l))))) :
    iq_P N xs 57 0 [some (iq_i a0)] [] g l Q := iq_w_ok (cuts := []) 9 0 _ _ _ _ H

-- ScaleForge$Reader.isLetter(I)Z at 0
set_option maxRecDepth 20000 in
theorem B58 {N : Nat} {xs : Nat → Int32} {Q : iq_T} (a0 : Int) (g : iq_I) (l : iq_J) (H : (-2147483648 ≤ a0 ∧ a0 ≤ 2147483647) ∧
    (a0 < (97 : Int) → (Q (some (iq_i 0)) g l)) ∧
    ((97 : Int) ≤ a0 → ((-2147483648 ≤ a0 ∧ a0 ≤ 2147483647) ∧
      ((122 : Int) < a0 → (Q (some (iq_i 0)) g l)) ∧
      (a0 ≤ (122 : Int) → (Q (some (iq_i 1)) g l))))) :
    iq_P N xs 58 0 [some (iq_i a0)] [] g l Q := iq_w_ok (cuts := []) 9 0 _ _ _ _ H

-- ScaleForge$Reader.passWord()V at 0
set_option maxRecDepth 20000 in
theorem B59_10 {N : Nat} {xs : Nat → Int32} {Q : iq_T} (g : iq_I) (l : iq_J) (H : iq_P N xs 59 5 [some (iq_r 10)] [] (iq_uz g 10 4 1) l Q) :
    iq_P N xs 59 0 [some (iq_r 10)] [] g l Q := iq_w_ok (cuts := [5]) 3 0 _ _ _ _ H

-- ScaleForge$Reader.passWord()V at 5
set_option maxRecDepth 20000 in
theorem B59_p5_10 {N : Nat} {xs : Nat → Int32} {Q : iq_T} (g : iq_I) (l : iq_J) (H : (-2147483648 ≤ (g 10 3) ∧ (g 10 3) ≤ 2147483647 ∧ -2147483648 ≤ (g 10 2) ∧ (g 10 2) ≤ 2147483647) ∧
    ((g 10 2) ≤ (g 10 3) → (Q (none) g l)) ∧
    ((g 10 3) < (g 10 2) → (iq_P N xs 56 0 [some (iq_r 10), some (iq_i (g 10 3))] [] g l (fun r g1 l2 => ∃ z3, r = some (iq_i z3) ∧ (iq_P N xs 58 0 [some (iq_i z3)] [] g1 l2 (fun r g4 l5 => ∃ z6, r = some (iq_i z6) ∧ ((-2147483648 ≤ z6 ∧ z6 ≤ 2147483647) ∧
          (z6 = (0 : Int) → (Q (none) g4 l5)) ∧
          (¬ z6 = (0 : Int) → (iq_P N xs 59 5 [some (iq_r 10)] [] (iq_uz g4 10 3 ((g4 10 3) + 1)) l5 Q))))))))) :
    iq_P N xs 59 5 [some (iq_r 10)] [] g l Q := iq_w_ok (cuts := [5]) 18 5 _ _ _ _ H

-- ScaleForge$Reader.isDigit(I)Z at 0
set_option maxRecDepth 20000 in
theorem B60 {N : Nat} {xs : Nat → Int32} {Q : iq_T} (a0 : Int) (g : iq_I) (l : iq_J) (H : (-2147483648 ≤ a0 ∧ a0 ≤ 2147483647) ∧
    (a0 < (48 : Int) → (Q (some (iq_i 0)) g l)) ∧
    ((48 : Int) ≤ a0 → ((-2147483648 ≤ a0 ∧ a0 ≤ 2147483647) ∧
      ((57 : Int) < a0 → (Q (some (iq_i 0)) g l)) ∧
      (a0 ≤ (57 : Int) → (Q (some (iq_i 1)) g l))))) :
    iq_P N xs 60 0 [some (iq_i a0)] [] g l Q := iq_w_ok (cuts := []) 9 0 _ _ _ _ H
