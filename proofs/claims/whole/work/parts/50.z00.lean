/-! What must hold that a stretch of a method ends well: methods 49 to 49. -/
-- ScaleForge.pour(IIIII)Z at 0
set_option maxRecDepth 20000 in
theorem B49_0 {N : Nat} {xs : Nat → Int32} {Q : iq_T} (a0 : Int) (a1 : Int) (a2 : Int) (a3 : Int) (a4 : Int) (g : iq_I) (l : iq_J) (H : iq_P N xs 27 0 [some (iq_r 0), some (iq_i a0)] [] g l (fun r g1 l2 => iq_P N xs 49 5 [some (iq_r 0), some (iq_i a0), some (iq_i a1), some (iq_i a2), some (iq_i a3), some (iq_i a4), none, none] (r.toList ++ []) g1 l2 Q)) :
    iq_P N xs 49 0 [some (iq_r 0), some (iq_i a0), some (iq_i a1), some (iq_i a2), some (iq_i a3), some (iq_i a4), none, none] [] g l Q := iq_w_ok (cuts := []) 3 0 _ _ _ _ H

-- ScaleForge.pour(IIIII)Z at 5
set_option maxRecDepth 20000 in
theorem B49_q5_null {N : Nat} {xs : Nat → Int32} {Q : iq_T} (v1 : Int) (v2 : Int) (v3 : Int) (v4 : Int) (v5 : Int) (g : iq_I) (l : iq_J) (H : iq_P N xs 27 0 [some (iq_r 0), some (iq_i v3)] [] g l (fun r g1 l2 => iq_P N xs 49 12 [some (iq_r 0), some (iq_i v1), some (iq_i v2), some (iq_i v3), some (iq_i v4), some (iq_i v5), some (iq_n), none] (r.toList ++ []) g1 l2 Q)) :
    iq_P N xs 49 5 [some (iq_r 0), some (iq_i v1), some (iq_i v2), some (iq_i v3), some (iq_i v4), some (iq_i v5), none, none] [iq_n] g l Q := iq_w_ok (cuts := []) 4 5 _ _ _ _ H

-- ScaleForge.pour(IIIII)Z at 5
set_option maxRecDepth 20000 in
theorem B49_q5_2 {N : Nat} {xs : Nat → Int32} {Q : iq_T} (v1 : Int) (v2 : Int) (v3 : Int) (v4 : Int) (v5 : Int) (g : iq_I) (l : iq_J) (H : iq_P N xs 27 0 [some (iq_r 0), some (iq_i v3)] [] g l (fun r g1 l2 => iq_P N xs 49 12 [some (iq_r 0), some (iq_i v1), some (iq_i v2), some (iq_i v3), some (iq_i v4), some (iq_i v5), some (iq_r 2), none] (r.toList ++ []) g1 l2 Q)) :
    iq_P N xs 49 5 [some (iq_r 0), some (iq_i v1), some (iq_i v2), some (iq_i v3), some (iq_i v4), some (iq_i v5), none, none] [iq_r 2] g l Q := iq_w_ok (cuts := []) 4 5 _ _ _ _ H

-- ScaleForge.pour(IIIII)Z at 5
set_option maxRecDepth 20000 in
theorem B49_q5_4 {N : Nat} {xs : Nat → Int32} {Q : iq_T} (v1 : Int) (v2 : Int) (v3 : Int) (v4 : Int) (v5 : Int) (g : iq_I) (l : iq_J) (H : iq_P N xs 27 0 [some (iq_r 0), some (iq_i v3)] [] g l (fun r g1 l2 => iq_P N xs 49 12 [some (iq_r 0), some (iq_i v1), some (iq_i v2), some (iq_i v3), some (iq_i v4), some (iq_i v5), some (iq_r 4), none] (r.toList ++ []) g1 l2 Q)) :
    iq_P N xs 49 5 [some (iq_r 0), some (iq_i v1), some (iq_i v2), some (iq_i v3), some (iq_i v4), some (iq_i v5), none, none] [iq_r 4] g l Q := iq_w_ok (cuts := []) 4 5 _ _ _ _ H

-- ScaleForge.pour(IIIII)Z at 5
set_option maxRecDepth 20000 in
theorem B49_q5_6 {N : Nat} {xs : Nat → Int32} {Q : iq_T} (v1 : Int) (v2 : Int) (v3 : Int) (v4 : Int) (v5 : Int) (g : iq_I) (l : iq_J) (H : iq_P N xs 27 0 [some (iq_r 0), some (iq_i v3)] [] g l (fun r g1 l2 => iq_P N xs 49 12 [some (iq_r 0), some (iq_i v1), some (iq_i v2), some (iq_i v3), some (iq_i v4), some (iq_i v5), some (iq_r 6), none] (r.toList ++ []) g1 l2 Q)) :
    iq_P N xs 49 5 [some (iq_r 0), some (iq_i v1), some (iq_i v2), some (iq_i v3), some (iq_i v4), some (iq_i v5), none, none] [iq_r 6] g l Q := iq_w_ok (cuts := []) 4 5 _ _ _ _ H

-- ScaleForge.pour(IIIII)Z at 5
set_option maxRecDepth 20000 in
theorem B49_q5_8 {N : Nat} {xs : Nat → Int32} {Q : iq_T} (v1 : Int) (v2 : Int) (v3 : Int) (v4 : Int) (v5 : Int) (g : iq_I) (l : iq_J) (H : iq_P N xs 27 0 [some (iq_r 0), some (iq_i v3)] [] g l (fun r g1 l2 => iq_P N xs 49 12 [some (iq_r 0), some (iq_i v1), some (iq_i v2), some (iq_i v3), some (iq_i v4), some (iq_i v5), some (iq_r 8), none] (r.toList ++ []) g1 l2 Q)) :
    iq_P N xs 49 5 [some (iq_r 0), some (iq_i v1), some (iq_i v2), some (iq_i v3), some (iq_i v4), some (iq_i v5), none, none] [iq_r 8] g l Q := iq_w_ok (cuts := []) 4 5 _ _ _ _ H

-- ScaleForge.pour(IIIII)Z at 12
set_option maxRecDepth 20000 in
theorem B49_q12_null_8 {N : Nat} {xs : Nat → Int32} {Q : iq_T} (v1 : Int) (v2 : Int) (v3 : Int) (v4 : Int) (v5 : Int) (g : iq_I) (l : iq_J) (H : iq_P N xs 28 0 [some (iq_r 0), some (iq_i 1)] [] g l (fun r g1 l2 => ∃ z3, r = some (iq_i z3) ∧ ((z3 = 0 ∨ z3 = 1) ∧ Q (some (iq_i z3)) g1 l2))) :
    iq_P N xs 49 12 [some (iq_r 0), some (iq_i v1), some (iq_i v2), some (iq_i v3), some (iq_i v4), some (iq_i v5), some (iq_r 8), none] [iq_n] g l Q := iq_w_ok (cuts := []) 9 12 _ _ _ _ H

-- ScaleForge.pour(IIIII)Z at 12
set_option maxRecDepth 20000 in
theorem B49_q12_2_8 {N : Nat} {xs : Nat → Int32} {Q : iq_T} (v1 : Int) (v2 : Int) (v3 : Int) (v4 : Int) (v5 : Int) (g : iq_I) (l : iq_J) (H : (-2147483648 ≤ v2 ∧ v2 ≤ 2147483647) ∧
    (v2 < (0 : Int) → (iq_P N xs 28 0 [some (iq_r 0), some (iq_i 1)] [] g l (fun r g1 l2 => ∃ z3, r = some (iq_i z3) ∧ ((z3 = 0 ∨ z3 = 1) ∧ Q (some (iq_i z3)) g1 l2)))) ∧
    ((0 : Int) ≤ v2 → ((-2147483648 ≤ v4 ∧ v4 ≤ 2147483647) ∧
      (v4 < (0 : Int) → (iq_P N xs 28 0 [some (iq_r 0), some (iq_i 1)] [] g l (fun r g4 l5 => ∃ z6, r = some (iq_i z6) ∧ ((z6 = 0 ∨ z6 = 1) ∧ Q (some (iq_i z6)) g4 l5)))) ∧
      ((0 : Int) ≤ v4 → ((-2147483648 ≤ v5 ∧ v5 ≤ 2147483647) ∧
        ((0 : Int) ≤ v5 → (iq_P N xs 35 0 [some (iq_r 8)] [] g l (fun r g7 l8 => ∃ z9, r = some (iq_i z9) ∧ ((-2147483648 ≤ z9 ∧ z9 ≤ 2147483647) ∧
            (¬ z9 = (0 : Int) → (iq_P N xs 28 0 [some (iq_r 0), some (iq_i 2)] [] g7 l8 (fun r g10 l11 => ∃ z12, r = some (iq_i z12) ∧ ((z12 = 0 ∨ z12 = 1) ∧ Q (some (iq_i z12)) g10 l11)))) ∧
            (z9 = (0 : Int) → (iq_P N xs 35 0 [some (iq_r 2)] [] g7 l8 (fun r g13 l14 => ∃ z15, r = some (iq_i z15) ∧ ((-2147483648 ≤ z15 ∧ z15 ≤ 2147483647) ∧
                (z15 = (0 : Int) → ((-2147483648 ≤ (g13 8 1) ∧ (g13 8 1) ≤ 2147483647 ∧ -2147483648 ≤ (g13 2 1) ∧ (g13 2 1) ≤ 2147483647) ∧
                  ((g13 8 1) = (g13 2 1) → (iq_P N xs 48 0 [some (iq_r 8), some (iq_i v2), some (iq_i v5)] [] g13 l14 (fun r g16 l17 => ∃ z18, r = some (iq_i z18) ∧ ((-2147483648 ≤ z18 ∧ z18 ≤ 2147483647) ∧
                      (z18 = (0 : Int) → (iq_P N xs 28 0 [some (iq_r 0), some (iq_i 3)] [] g16 l17 (fun r g19 l20 => ∃ z21, r = some (iq_i z21) ∧ ((z21 = 0 ∨ z21 = 1) ∧ Q (some (iq_i z21)) g19 l20)))) ∧
                      (¬ z18 = (0 : Int) → (iq_P N xs 48 0 [some (iq_r 2), some (iq_i v4), some (iq_i v5)] [] g16 l17 (fun r g22 l23 => ∃ z24, r = some (iq_i z24) ∧ ((-2147483648 ≤ z24 ∧ z24 ≤ 2147483647) ∧
                          (¬ z24 = (0 : Int) → ((0 ≤ v2 ∧ 0 ≤ v4 ∧ 0 ≤ v5 ∧ v2 + v5 ≤ 60 ∧ v4 + v5 ≤ 60) ∧ (iq_P N xs 49 133 [some (iq_r 0), some (iq_i v1), some (iq_i v2), some (iq_i v3), some (iq_i v4), some (iq_i v5), some (iq_r 8), some (iq_r 2)] [] g22 (iq_rz l23 3 (iq_cz (l23 9) (l23 3) v2 v4 v5)) Q))) ∧
                          (z24 = (0 : Int) → (iq_P N xs 28 0 [some (iq_r 0), some (iq_i 3)] [] g22 l23 (fun r g25 l26 => ∃ z27, r = some (iq_i z27) ∧ ((z27 = 0 ∨ z27 = 1) ∧ Q (some (iq_i z27)) g25 l26)))))))))))) ∧
                  (¬ (g13 8 1) = (g13 2 1) → (iq_P N xs 28 0 [some (iq_r 0), some (iq_i 8)] [] g13 l14 (fun r g28 l29 => ∃ z30, r = some (iq_i z30) ∧ ((z30 = 0 ∨ z30 = 1) ∧ Q (some (iq_i z30)) g28 l29)))))) ∧
                (¬ z15 = (0 : Int) → (iq_P N xs 28 0 [some (iq_r 0), some (iq_i 2)] [] g13 l14 (fun r g31 l32 => ∃ z33, r = some (iq_i z33) ∧ ((z33 = 0 ∨ z33 = 1) ∧ Q (some (iq_i z33)) g31 l32)))))))))))) ∧
        (v5 < (0 : Int) → (iq_P N xs 28 0 [some (iq_r 0), some (iq_i 1)] [] g l (fun r g34 l35 => ∃ z36, r = some (iq_i z36) ∧ ((z36 = 0 ∨ z36 = 1) ∧ Q (some (iq_i z36)) g34 l35))))))))) :
    iq_P N xs 49 12 [some (iq_r 0), some (iq_i v1), some (iq_i v2), some (iq_i v3), some (iq_i v4), some (iq_i v5), some (iq_r 8), none] [iq_r 2] g l Q := iq_w_ok (cuts := [133]) 40 12 _ _ _ _ H

-- ScaleForge.pour(IIIII)Z at 133
set_option maxRecDepth 20000 in
theorem B49_p133_2 {N : Nat} {xs : Nat → Int32} {Q : iq_T} (v1 : Int) (v2 : Int) (v3 : Int) (v4 : Int) (v5 : Int) (g : iq_I) (l : iq_J) (H : iq_P N xs 30 0 [some (iq_r 0)] [] g l (fun r g1 l2 => ∃ z3, r = some (iq_i z3) ∧ ((z3 = 0 ∨ z3 = 1) ∧ Q (some (iq_i z3)) g1 l2))) :
    iq_P N xs 49 133 [some (iq_r 0), some (iq_i v1), some (iq_i v2), some (iq_i v3), some (iq_i v4), some (iq_i v5), some (iq_r 8), some (iq_r 2)] [] g l Q := iq_w_ok (cuts := [133]) 3 133 _ _ _ _ H

-- ScaleForge.pour(IIIII)Z at 12
set_option maxRecDepth 20000 in
theorem B49_q12_4_8 {N : Nat} {xs : Nat → Int32} {Q : iq_T} (v1 : Int) (v2 : Int) (v3 : Int) (v4 : Int) (v5 : Int) (g : iq_I) (l : iq_J) (H : (-2147483648 ≤ v2 ∧ v2 ≤ 2147483647) ∧
    (v2 < (0 : Int) → (iq_P N xs 28 0 [some (iq_r 0), some (iq_i 1)] [] g l (fun r g1 l2 => ∃ z3, r = some (iq_i z3) ∧ ((z3 = 0 ∨ z3 = 1) ∧ Q (some (iq_i z3)) g1 l2)))) ∧
    ((0 : Int) ≤ v2 → ((-2147483648 ≤ v4 ∧ v4 ≤ 2147483647) ∧
      (v4 < (0 : Int) → (iq_P N xs 28 0 [some (iq_r 0), some (iq_i 1)] [] g l (fun r g4 l5 => ∃ z6, r = some (iq_i z6) ∧ ((z6 = 0 ∨ z6 = 1) ∧ Q (some (iq_i z6)) g4 l5)))) ∧
      ((0 : Int) ≤ v4 → ((-2147483648 ≤ v5 ∧ v5 ≤ 2147483647) ∧
        ((0 : Int) ≤ v5 → (iq_P N xs 35 0 [some (iq_r 8)] [] g l (fun r g7 l8 => ∃ z9, r = some (iq_i z9) ∧ ((-2147483648 ≤ z9 ∧ z9 ≤ 2147483647) ∧
            (¬ z9 = (0 : Int) → (iq_P N xs 28 0 [some (iq_r 0), some (iq_i 2)] [] g7 l8 (fun r g10 l11 => ∃ z12, r = some (iq_i z12) ∧ ((z12 = 0 ∨ z12 = 1) ∧ Q (some (iq_i z12)) g10 l11)))) ∧
            (z9 = (0 : Int) → (iq_P N xs 35 0 [some (iq_r 4)] [] g7 l8 (fun r g13 l14 => ∃ z15, r = some (iq_i z15) ∧ ((-2147483648 ≤ z15 ∧ z15 ≤ 2147483647) ∧
                (z15 = (0 : Int) → ((-2147483648 ≤ (g13 8 1) ∧ (g13 8 1) ≤ 2147483647 ∧ -2147483648 ≤ (g13 4 1) ∧ (g13 4 1) ≤ 2147483647) ∧
                  ((g13 8 1) = (g13 4 1) → (iq_P N xs 48 0 [some (iq_r 8), some (iq_i v2), some (iq_i v5)] [] g13 l14 (fun r g16 l17 => ∃ z18, r = some (iq_i z18) ∧ ((-2147483648 ≤ z18 ∧ z18 ≤ 2147483647) ∧
                      (z18 = (0 : Int) → (iq_P N xs 28 0 [some (iq_r 0), some (iq_i 3)] [] g16 l17 (fun r g19 l20 => ∃ z21, r = some (iq_i z21) ∧ ((z21 = 0 ∨ z21 = 1) ∧ Q (some (iq_i z21)) g19 l20)))) ∧
                      (¬ z18 = (0 : Int) → (iq_P N xs 48 0 [some (iq_r 4), some (iq_i v4), some (iq_i v5)] [] g16 l17 (fun r g22 l23 => ∃ z24, r = some (iq_i z24) ∧ ((-2147483648 ≤ z24 ∧ z24 ≤ 2147483647) ∧
                          (¬ z24 = (0 : Int) → ((0 ≤ v2 ∧ 0 ≤ v4 ∧ 0 ≤ v5 ∧ v2 + v5 ≤ 60 ∧ v4 + v5 ≤ 60) ∧ (iq_P N xs 49 133 [some (iq_r 0), some (iq_i v1), some (iq_i v2), some (iq_i v3), some (iq_i v4), some (iq_i v5), some (iq_r 8), some (iq_r 4)] [] g22 (iq_rz l23 5 (iq_cz (l23 9) (l23 5) v2 v4 v5)) Q))) ∧
                          (z24 = (0 : Int) → (iq_P N xs 28 0 [some (iq_r 0), some (iq_i 3)] [] g22 l23 (fun r g25 l26 => ∃ z27, r = some (iq_i z27) ∧ ((z27 = 0 ∨ z27 = 1) ∧ Q (some (iq_i z27)) g25 l26)))))))))))) ∧
                  (¬ (g13 8 1) = (g13 4 1) → (iq_P N xs 28 0 [some (iq_r 0), some (iq_i 8)] [] g13 l14 (fun r g28 l29 => ∃ z30, r = some (iq_i z30) ∧ ((z30 = 0 ∨ z30 = 1) ∧ Q (some (iq_i z30)) g28 l29)))))) ∧
                (¬ z15 = (0 : Int) → (iq_P N xs 28 0 [some (iq_r 0), some (iq_i 2)] [] g13 l14 (fun r g31 l32 => ∃ z33, r = some (iq_i z33) ∧ ((z33 = 0 ∨ z33 = 1) ∧ Q (some (iq_i z33)) g31 l32)))))))))))) ∧
        (v5 < (0 : Int) → (iq_P N xs 28 0 [some (iq_r 0), some (iq_i 1)] [] g l (fun r g34 l35 => ∃ z36, r = some (iq_i z36) ∧ ((z36 = 0 ∨ z36 = 1) ∧ Q (some (iq_i z36)) g34 l35))))))))) :
    iq_P N xs 49 12 [some (iq_r 0), some (iq_i v1), some (iq_i v2), some (iq_i v3), some (iq_i v4), some (iq_i v5), some (iq_r 8), none] [iq_r 4] g l Q := iq_w_ok (cuts := [133]) 40 12 _ _ _ _ H

-- ScaleForge.pour(IIIII)Z at 133
set_option maxRecDepth 20000 in
theorem B49_p133_4 {N : Nat} {xs : Nat → Int32} {Q : iq_T} (v1 : Int) (v2 : Int) (v3 : Int) (v4 : Int) (v5 : Int) (g : iq_I) (l : iq_J) (H : iq_P N xs 30 0 [some (iq_r 0)] [] g l (fun r g1 l2 => ∃ z3, r = some (iq_i z3) ∧ ((z3 = 0 ∨ z3 = 1) ∧ Q (some (iq_i z3)) g1 l2))) :
    iq_P N xs 49 133 [some (iq_r 0), some (iq_i v1), some (iq_i v2), some (iq_i v3), some (iq_i v4), some (iq_i v5), some (iq_r 8), some (iq_r 4)] [] g l Q := iq_w_ok (cuts := [133]) 3 133 _ _ _ _ H

-- ScaleForge.pour(IIIII)Z at 12
set_option maxRecDepth 20000 in
theorem B49_q12_6_8 {N : Nat} {xs : Nat → Int32} {Q : iq_T} (v1 : Int) (v2 : Int) (v3 : Int) (v4 : Int) (v5 : Int) (g : iq_I) (l : iq_J) (H : (-2147483648 ≤ v2 ∧ v2 ≤ 2147483647) ∧
    (v2 < (0 : Int) → (iq_P N xs 28 0 [some (iq_r 0), some (iq_i 1)] [] g l (fun r g1 l2 => ∃ z3, r = some (iq_i z3) ∧ ((z3 = 0 ∨ z3 = 1) ∧ Q (some (iq_i z3)) g1 l2)))) ∧
    ((0 : Int) ≤ v2 → ((-2147483648 ≤ v4 ∧ v4 ≤ 2147483647) ∧
      (v4 < (0 : Int) → (iq_P N xs 28 0 [some (iq_r 0), some (iq_i 1)] [] g l (fun r g4 l5 => ∃ z6, r = some (iq_i z6) ∧ ((z6 = 0 ∨ z6 = 1) ∧ Q (some (iq_i z6)) g4 l5)))) ∧
      ((0 : Int) ≤ v4 → ((-2147483648 ≤ v5 ∧ v5 ≤ 2147483647) ∧
        ((0 : Int) ≤ v5 → (iq_P N xs 35 0 [some (iq_r 8)] [] g l (fun r g7 l8 => ∃ z9, r = some (iq_i z9) ∧ ((-2147483648 ≤ z9 ∧ z9 ≤ 2147483647) ∧
            (¬ z9 = (0 : Int) → (iq_P N xs 28 0 [some (iq_r 0), some (iq_i 2)] [] g7 l8 (fun r g10 l11 => ∃ z12, r = some (iq_i z12) ∧ ((z12 = 0 ∨ z12 = 1) ∧ Q (some (iq_i z12)) g10 l11)))) ∧
            (z9 = (0 : Int) → (iq_P N xs 35 0 [some (iq_r 6)] [] g7 l8 (fun r g13 l14 => ∃ z15, r = some (iq_i z15) ∧ ((-2147483648 ≤ z15 ∧ z15 ≤ 2147483647) ∧
                (z15 = (0 : Int) → ((-2147483648 ≤ (g13 8 1) ∧ (g13 8 1) ≤ 2147483647 ∧ -2147483648 ≤ (g13 6 1) ∧ (g13 6 1) ≤ 2147483647) ∧
                  ((g13 8 1) = (g13 6 1) → (iq_P N xs 48 0 [some (iq_r 8), some (iq_i v2), some (iq_i v5)] [] g13 l14 (fun r g16 l17 => ∃ z18, r = some (iq_i z18) ∧ ((-2147483648 ≤ z18 ∧ z18 ≤ 2147483647) ∧
                      (z18 = (0 : Int) → (iq_P N xs 28 0 [some (iq_r 0), some (iq_i 3)] [] g16 l17 (fun r g19 l20 => ∃ z21, r = some (iq_i z21) ∧ ((z21 = 0 ∨ z21 = 1) ∧ Q (some (iq_i z21)) g19 l20)))) ∧
                      (¬ z18 = (0 : Int) → (iq_P N xs 48 0 [some (iq_r 6), some (iq_i v4), some (iq_i v5)] [] g16 l17 (fun r g22 l23 => ∃ z24, r = some (iq_i z24) ∧ ((-2147483648 ≤ z24 ∧ z24 ≤ 2147483647) ∧
                          (¬ z24 = (0 : Int) → ((0 ≤ v2 ∧ 0 ≤ v4 ∧ 0 ≤ v5 ∧ v2 + v5 ≤ 60 ∧ v4 + v5 ≤ 60) ∧ (iq_P N xs 49 133 [some (iq_r 0), some (iq_i v1), some (iq_i v2), some (iq_i v3), some (iq_i v4), some (iq_i v5), some (iq_r 8), some (iq_r 6)] [] g22 (iq_rz l23 7 (iq_cz (l23 9) (l23 7) v2 v4 v5)) Q))) ∧
                          (z24 = (0 : Int) → (iq_P N xs 28 0 [some (iq_r 0), some (iq_i 3)] [] g22 l23 (fun r g25 l26 => ∃ z27, r = some (iq_i z27) ∧ ((z27 = 0 ∨ z27 = 1) ∧ Q (some (iq_i z27)) g25 l26)))))))))))) ∧
                  (¬ (g13 8 1) = (g13 6 1) → (iq_P N xs 28 0 [some (iq_r 0), some (iq_i 8)] [] g13 l14 (fun r g28 l29 => ∃ z30, r = some (iq_i z30) ∧ ((z30 = 0 ∨ z30 = 1) ∧ Q (some (iq_i z30)) g28 l29)))))) ∧
                (¬ z15 = (0 : Int) → (iq_P N xs 28 0 [some (iq_r 0), some (iq_i 2)] [] g13 l14 (fun r g31 l32 => ∃ z33, r = some (iq_i z33) ∧ ((z33 = 0 ∨ z33 = 1) ∧ Q (some (iq_i z33)) g31 l32)))))))))))) ∧
        (v5 < (0 : Int) → (iq_P N xs 28 0 [some (iq_r 0), some (iq_i 1)] [] g l (fun r g34 l35 => ∃ z36, r = some (iq_i z36) ∧ ((z36 = 0 ∨ z36 = 1) ∧ Q (some (iq_i z36)) g34 l35))))))))) :
    iq_P N xs 49 12 [some (iq_r 0), some (iq_i v1), some (iq_i v2), some (iq_i v3), some (iq_i v4), some (iq_i v5), some (iq_r 8), none] [iq_r 6] g l Q := iq_w_ok (cuts := [133]) 40 12 _ _ _ _ H

-- ScaleForge.pour(IIIII)Z at 133
set_option maxRecDepth 20000 in
theorem B49_p133_6 {N : Nat} {xs : Nat → Int32} {Q : iq_T} (v1 : Int) (v2 : Int) (v3 : Int) (v4 : Int) (v5 : Int) (g : iq_I) (l : iq_J) (H : iq_P N xs 30 0 [some (iq_r 0)] [] g l (fun r g1 l2 => ∃ z3, r = some (iq_i z3) ∧ ((z3 = 0 ∨ z3 = 1) ∧ Q (some (iq_i z3)) g1 l2))) :
    iq_P N xs 49 133 [some (iq_r 0), some (iq_i v1), some (iq_i v2), some (iq_i v3), some (iq_i v4), some (iq_i v5), some (iq_r 8), some (iq_r 6)] [] g l Q := iq_w_ok (cuts := [133]) 3 133 _ _ _ _ H

-- ScaleForge.pour(IIIII)Z at 12
set_option maxRecDepth 20000 in
theorem B49_q12_8_8 {N : Nat} {xs : Nat → Int32} {Q : iq_T} (v1 : Int) (v2 : Int) (v3 : Int) (v4 : Int) (v5 : Int) (g : iq_I) (l : iq_J) (H : (-2147483648 ≤ v2 ∧ v2 ≤ 2147483647) ∧
    (v2 < (0 : Int) → (iq_P N xs 28 0 [some (iq_r 0), some (iq_i 1)] [] g l (fun r g1 l2 => ∃ z3, r = some (iq_i z3) ∧ ((z3 = 0 ∨ z3 = 1) ∧ Q (some (iq_i z3)) g1 l2)))) ∧
    ((0 : Int) ≤ v2 → ((-2147483648 ≤ v4 ∧ v4 ≤ 2147483647) ∧
      (v4 < (0 : Int) → (iq_P N xs 28 0 [some (iq_r 0), some (iq_i 1)] [] g l (fun r g4 l5 => ∃ z6, r = some (iq_i z6) ∧ ((z6 = 0 ∨ z6 = 1) ∧ Q (some (iq_i z6)) g4 l5)))) ∧
      ((0 : Int) ≤ v4 → ((-2147483648 ≤ v5 ∧ v5 ≤ 2147483647) ∧
        ((0 : Int) ≤ v5 → (iq_P N xs 35 0 [some (iq_r 8)] [] g l (fun r g7 l8 => ∃ z9, r = some (iq_i z9) ∧ ((-2147483648 ≤ z9 ∧ z9 ≤ 2147483647) ∧
            (¬ z9 = (0 : Int) → (iq_P N xs 28 0 [some (iq_r 0), some (iq_i 2)] [] g7 l8 (fun r g10 l11 => ∃ z12, r = some (iq_i z12) ∧ ((z12 = 0 ∨ z12 = 1) ∧ Q (some (iq_i z12)) g10 l11)))) ∧
            (z9 = (0 : Int) → (iq_P N xs 35 0 [some (iq_r 8)] [] g7 l8 (fun r g13 l14 => ∃ z15, r = some (iq_i z15) ∧ ((-2147483648 ≤ z15 ∧ z15 ≤ 2147483647) ∧
                (z15 = (0 : Int) → ((-2147483648 ≤ (g13 8 1) ∧ (g13 8 1) ≤ 2147483647 ∧ -2147483648 ≤ (g13 8 1) ∧ (g13 8 1) ≤ 2147483647) ∧
                  ((g13 8 1) = (g13 8 1) → (iq_P N xs 48 0 [some (iq_r 8), some (iq_i v2), some (iq_i v5)] [] g13 l14 (fun r g16 l17 => ∃ z18, r = some (iq_i z18) ∧ ((-2147483648 ≤ z18 ∧ z18 ≤ 2147483647) ∧
                      (z18 = (0 : Int) → (iq_P N xs 28 0 [some (iq_r 0), some (iq_i 3)] [] g16 l17 (fun r g19 l20 => ∃ z21, r = some (iq_i z21) ∧ ((z21 = 0 ∨ z21 = 1) ∧ Q (some (iq_i z21)) g19 l20)))) ∧
                      (¬ z18 = (0 : Int) → (iq_P N xs 48 0 [some (iq_r 8), some (iq_i v4), some (iq_i v5)] [] g16 l17 (fun r g22 l23 => ∃ z24, r = some (iq_i z24) ∧ ((-2147483648 ≤ z24 ∧ z24 ≤ 2147483647) ∧
                          (¬ z24 = (0 : Int) → ((0 ≤ v2 ∧ 0 ≤ v4 ∧ 0 ≤ v5 ∧ v2 + v5 ≤ 60 ∧ v4 + v5 ≤ 60) ∧ (iq_P N xs 49 133 [some (iq_r 0), some (iq_i v1), some (iq_i v2), some (iq_i v3), some (iq_i v4), some (iq_i v5), some (iq_r 8), some (iq_r 8)] [] g22 (iq_rz l23 9 (iq_cz (l23 9) (l23 9) v2 v4 v5)) Q))) ∧
                          (z24 = (0 : Int) → (iq_P N xs 28 0 [some (iq_r 0), some (iq_i 3)] [] g22 l23 (fun r g25 l26 => ∃ z27, r = some (iq_i z27) ∧ ((z27 = 0 ∨ z27 = 1) ∧ Q (some (iq_i z27)) g25 l26)))))))))))) ∧
                  (¬ (g13 8 1) = (g13 8 1) → (iq_P N xs 28 0 [some (iq_r 0), some (iq_i 8)] [] g13 l14 (fun r g28 l29 => ∃ z30, r = some (iq_i z30) ∧ ((z30 = 0 ∨ z30 = 1) ∧ Q (some (iq_i z30)) g28 l29)))))) ∧
                (¬ z15 = (0 : Int) → (iq_P N xs 28 0 [some (iq_r 0), some (iq_i 2)] [] g13 l14 (fun r g31 l32 => ∃ z33, r = some (iq_i z33) ∧ ((z33 = 0 ∨ z33 = 1) ∧ Q (some (iq_i z33)) g31 l32)))))))))))) ∧
        (v5 < (0 : Int) → (iq_P N xs 28 0 [some (iq_r 0), some (iq_i 1)] [] g l (fun r g34 l35 => ∃ z36, r = some (iq_i z36) ∧ ((z36 = 0 ∨ z36 = 1) ∧ Q (some (iq_i z36)) g34 l35))))))))) :
    iq_P N xs 49 12 [some (iq_r 0), some (iq_i v1), some (iq_i v2), some (iq_i v3), some (iq_i v4), some (iq_i v5), some (iq_r 8), none] [iq_r 8] g l Q := iq_w_ok (cuts := [133]) 40 12 _ _ _ _ H

-- ScaleForge.pour(IIIII)Z at 133
set_option maxRecDepth 20000 in
theorem B49_p133_8 {N : Nat} {xs : Nat → Int32} {Q : iq_T} (v1 : Int) (v2 : Int) (v3 : Int) (v4 : Int) (v5 : Int) (g : iq_I) (l : iq_J) (H : iq_P N xs 30 0 [some (iq_r 0)] [] g l (fun r g1 l2 => ∃ z3, r = some (iq_i z3) ∧ ((z3 = 0 ∨ z3 = 1) ∧ Q (some (iq_i z3)) g1 l2))) :
    iq_P N xs 49 133 [some (iq_r 0), some (iq_i v1), some (iq_i v2), some (iq_i v3), some (iq_i v4), some (iq_i v5), some (iq_r 8), some (iq_r 8)] [] g l Q := iq_w_ok (cuts := [133]) 3 133 _ _ _ _ H

-- ScaleForge.pour(IIIII)Z at 12
set_option maxRecDepth 20000 in
theorem B49_q12_null_6 {N : Nat} {xs : Nat → Int32} {Q : iq_T} (v1 : Int) (v2 : Int) (v3 : Int) (v4 : Int) (v5 : Int) (g : iq_I) (l : iq_J) (H : iq_P N xs 28 0 [some (iq_r 0), some (iq_i 1)] [] g l (fun r g1 l2 => ∃ z3, r = some (iq_i z3) ∧ ((z3 = 0 ∨ z3 = 1) ∧ Q (some (iq_i z3)) g1 l2))) :
    iq_P N xs 49 12 [some (iq_r 0), some (iq_i v1), some (iq_i v2), some (iq_i v3), some (iq_i v4), some (iq_i v5), some (iq_r 6), none] [iq_n] g l Q := iq_w_ok (cuts := []) 9 12 _ _ _ _ H

-- ScaleForge.pour(IIIII)Z at 12
set_option maxRecDepth 20000 in
theorem B49_q12_2_6 {N : Nat} {xs : Nat → Int32} {Q : iq_T} (v1 : Int) (v2 : Int) (v3 : Int) (v4 : Int) (v5 : Int) (g : iq_I) (l : iq_J) (H : (-2147483648 ≤ v2 ∧ v2 ≤ 2147483647) ∧
    (v2 < (0 : Int) → (iq_P N xs 28 0 [some (iq_r 0), some (iq_i 1)] [] g l (fun r g1 l2 => ∃ z3, r = some (iq_i z3) ∧ ((z3 = 0 ∨ z3 = 1) ∧ Q (some (iq_i z3)) g1 l2)))) ∧
    ((0 : Int) ≤ v2 → ((-2147483648 ≤ v4 ∧ v4 ≤ 2147483647) ∧
      (v4 < (0 : Int) → (iq_P N xs 28 0 [some (iq_r 0), some (iq_i 1)] [] g l (fun r g4 l5 => ∃ z6, r = some (iq_i z6) ∧ ((z6 = 0 ∨ z6 = 1) ∧ Q (some (iq_i z6)) g4 l5)))) ∧
      ((0 : Int) ≤ v4 → ((-2147483648 ≤ v5 ∧ v5 ≤ 2147483647) ∧
        ((0 : Int) ≤ v5 → (iq_P N xs 35 0 [some (iq_r 6)] [] g l (fun r g7 l8 => ∃ z9, r = some (iq_i z9) ∧ ((-2147483648 ≤ z9 ∧ z9 ≤ 2147483647) ∧
            (¬ z9 = (0 : Int) → (iq_P N xs 28 0 [some (iq_r 0), some (iq_i 2)] [] g7 l8 (fun r g10 l11 => ∃ z12, r = some (iq_i z12) ∧ ((z12 = 0 ∨ z12 = 1) ∧ Q (some (iq_i z12)) g10 l11)))) ∧
            (z9 = (0 : Int) → (iq_P N xs 35 0 [some (iq_r 2)] [] g7 l8 (fun r g13 l14 => ∃ z15, r = some (iq_i z15) ∧ ((-2147483648 ≤ z15 ∧ z15 ≤ 2147483647) ∧
                (z15 = (0 : Int) → ((-2147483648 ≤ (g13 6 1) ∧ (g13 6 1) ≤ 2147483647 ∧ -2147483648 ≤ (g13 2 1) ∧ (g13 2 1) ≤ 2147483647) ∧
                  ((g13 6 1) = (g13 2 1) → (iq_P N xs 48 0 [some (iq_r 6), some (iq_i v2), some (iq_i v5)] [] g13 l14 (fun r g16 l17 => ∃ z18, r = some (iq_i z18) ∧ ((-2147483648 ≤ z18 ∧ z18 ≤ 2147483647) ∧
                      (z18 = (0 : Int) → (iq_P N xs 28 0 [some (iq_r 0), some (iq_i 3)] [] g16 l17 (fun r g19 l20 => ∃ z21, r = some (iq_i z21) ∧ ((z21 = 0 ∨ z21 = 1) ∧ Q (some (iq_i z21)) g19 l20)))) ∧
                      (¬ z18 = (0 : Int) → (iq_P N xs 48 0 [some (iq_r 2), some (iq_i v4), some (iq_i v5)] [] g16 l17 (fun r g22 l23 => ∃ z24, r = some (iq_i z24) ∧ ((-2147483648 ≤ z24 ∧ z24 ≤ 2147483647) ∧
                          (¬ z24 = (0 : Int) → ((0 ≤ v2 ∧ 0 ≤ v4 ∧ 0 ≤ v5 ∧ v2 + v5 ≤ 60 ∧ v4 + v5 ≤ 60) ∧ (iq_P N xs 49 133 [some (iq_r 0), some (iq_i v1), some (iq_i v2), some (iq_i v3), some (iq_i v4), some (iq_i v5), some (iq_r 6), some (iq_r 2)] [] g22 (iq_rz l23 3 (iq_cz (l23 7) (l23 3) v2 v4 v5)) Q))) ∧
                          (z24 = (0 : Int) → (iq_P N xs 28 0 [some (iq_r 0), some (iq_i 3)] [] g22 l23 (fun r g25 l26 => ∃ z27, r = some (iq_i z27) ∧ ((z27 = 0 ∨ z27 = 1) ∧ Q (some (iq_i z27)) g25 l26)))))))))))) ∧
                  (¬ (g13 6 1) = (g13 2 1) → (iq_P N xs 28 0 [some (iq_r 0), some (iq_i 8)] [] g13 l14 (fun r g28 l29 => ∃ z30, r = some (iq_i z30) ∧ ((z30 = 0 ∨ z30 = 1) ∧ Q (some (iq_i z30)) g28 l29)))))) ∧
                (¬ z15 = (0 : Int) → (iq_P N xs 28 0 [some (iq_r 0), some (iq_i 2)] [] g13 l14 (fun r g31 l32 => ∃ z33, r = some (iq_i z33) ∧ ((z33 = 0 ∨ z33 = 1) ∧ Q (some (iq_i z33)) g31 l32)))))))))))) ∧
        (v5 < (0 : Int) → (iq_P N xs 28 0 [some (iq_r 0), some (iq_i 1)] [] g l (fun r g34 l35 => ∃ z36, r = some (iq_i z36) ∧ ((z36 = 0 ∨ z36 = 1) ∧ Q (some (iq_i z36)) g34 l35))))))))) :
    iq_P N xs 49 12 [some (iq_r 0), some (iq_i v1), some (iq_i v2), some (iq_i v3), some (iq_i v4), some (iq_i v5), some (iq_r 6), none] [iq_r 2] g l Q := iq_w_ok (cuts := [133]) 40 12 _ _ _ _ H

-- ScaleForge.pour(IIIII)Z at 12
set_option maxRecDepth 20000 in
theorem B49_q12_4_6 {N : Nat} {xs : Nat → Int32} {Q : iq_T} (v1 : Int) (v2 : Int) (v3 : Int) (v4 : Int) (v5 : Int) (g : iq_I) (l : iq_J) (H : (-2147483648 ≤ v2 ∧ v2 ≤ 2147483647) ∧
    (v2 < (0 : Int) → (iq_P N xs 28 0 [some (iq_r 0), some (iq_i 1)] [] g l (fun r g1 l2 => ∃ z3, r = some (iq_i z3) ∧ ((z3 = 0 ∨ z3 = 1) ∧ Q (some (iq_i z3)) g1 l2)))) ∧
    ((0 : Int) ≤ v2 → ((-2147483648 ≤ v4 ∧ v4 ≤ 2147483647) ∧
      (v4 < (0 : Int) → (iq_P N xs 28 0 [some (iq_r 0), some (iq_i 1)] [] g l (fun r g4 l5 => ∃ z6, r = some (iq_i z6) ∧ ((z6 = 0 ∨ z6 = 1) ∧ Q (some (iq_i z6)) g4 l5)))) ∧
      ((0 : Int) ≤ v4 → ((-2147483648 ≤ v5 ∧ v5 ≤ 2147483647) ∧
        ((0 : Int) ≤ v5 → (iq_P N xs 35 0 [some (iq_r 6)] [] g l (fun r g7 l8 => ∃ z9, r = some (iq_i z9) ∧ ((-2147483648 ≤ z9 ∧ z9 ≤ 2147483647) ∧
            (¬ z9 = (0 : Int) → (iq_P N xs 28 0 [some (iq_r 0), some (iq_i 2)] [] g7 l8 (fun r g10 l11 => ∃ z12, r = some (iq_i z12) ∧ ((z12 = 0 ∨ z12 = 1) ∧ Q (some (iq_i z12)) g10 l11)))) ∧
            (z9 = (0 : Int) → (iq_P N xs 35 0 [some (iq_r 4)] [] g7 l8 (fun r g13 l14 => ∃ z15, r = some (iq_i z15) ∧ ((-2147483648 ≤ z15 ∧ z15 ≤ 2147483647) ∧
                (z15 = (0 : Int) → ((-2147483648 ≤ (g13 6 1) ∧ (g13 6 1) ≤ 2147483647 ∧ -2147483648 ≤ (g13 4 1) ∧ (g13 4 1) ≤ 2147483647) ∧
                  ((g13 6 1) = (g13 4 1) → (iq_P N xs 48 0 [some (iq_r 6), some (iq_i v2), some (iq_i v5)] [] g13 l14 (fun r g16 l17 => ∃ z18, r = some (iq_i z18) ∧ ((-2147483648 ≤ z18 ∧ z18 ≤ 2147483647) ∧
                      (z18 = (0 : Int) → (iq_P N xs 28 0 [some (iq_r 0), some (iq_i 3)] [] g16 l17 (fun r g19 l20 => ∃ z21, r = some (iq_i z21) ∧ ((z21 = 0 ∨ z21 = 1) ∧ Q (some (iq_i z21)) g19 l20)))) ∧
                      (¬ z18 = (0 : Int) → (iq_P N xs 48 0 [some (iq_r 4), some (iq_i v4), some (iq_i v5)] [] g16 l17 (fun r g22 l23 => ∃ z24, r = some (iq_i z24) ∧ ((-2147483648 ≤ z24 ∧ z24 ≤ 2147483647) ∧
                          (¬ z24 = (0 : Int) → ((0 ≤ v2 ∧ 0 ≤ v4 ∧ 0 ≤ v5 ∧ v2 + v5 ≤ 60 ∧ v4 + v5 ≤ 60) ∧ (iq_P N xs 49 133 [some (iq_r 0), some (iq_i v1), some (iq_i v2), some (iq_i v3), some (iq_i v4), some (iq_i v5), some (iq_r 6), some (iq_r 4)] [] g22 (iq_rz l23 5 (iq_cz (l23 7) (l23 5) v2 v4 v5)) Q))) ∧
                          (z24 = (0 : Int) → (iq_P N xs 28 0 [some (iq_r 0), some (iq_i 3)] [] g22 l23 (fun r g25 l26 => ∃ z27, r = some (iq_i z27) ∧ ((z27 = 0 ∨ z27 = 1) ∧ Q (some (iq_i z27)) g25 l26)))))))))))) ∧
                  (¬ (g13 6 1) = (g13 4 1) → (iq_P N xs 28 0 [some (iq_r 0), some (iq_i 8)] [] g13 l14 (fun r g28 l29 => ∃ z30, r = some (iq_i z30) ∧ ((z30 = 0 ∨ z30 = 1) ∧ Q (some (iq_i z30)) g28 l29)))))) ∧
                (¬ z15 = (0 : Int) → (iq_P N xs 28 0 [some (iq_r 0), some (iq_i 2)] [] g13 l14 (fun r g31 l32 => ∃ z33, r = some (iq_i z33) ∧ ((z33 = 0 ∨ z33 = 1) ∧ Q (some (iq_i z33)) g31 l32)))))))))))) ∧
        (v5 < (0 : Int) → (iq_P N xs 28 0 [some (iq_r 0), some (iq_i 1)] [] g l (fun r g34 l35 => ∃ z36, r = some (iq_i z36) ∧ ((z36 = 0 ∨ z36 = 1) ∧ Q (some (iq_i z36)) g34 l35))))))))) :
    iq_P N xs 49 12 [some (iq_r 0), some (iq_i v1), some (iq_i v2), some (iq_i v3), some (iq_i v4), some (iq_i v5), some (iq_r 6), none] [iq_r 4] g l Q := iq_w_ok (cuts := [133]) 40 12 _ _ _ _ H

-- ScaleForge.pour(IIIII)Z at 12
set_option maxRecDepth 20000 in
theorem B49_q12_6_6 {N : Nat} {xs : Nat → Int32} {Q : iq_T} (v1 : Int) (v2 : Int) (v3 : Int) (v4 : Int) (v5 : Int) (g : iq_I) (l : iq_J) (H : (-2147483648 ≤ v2 ∧ v2 ≤ 2147483647) ∧
    (v2 < (0 : Int) → (iq_P N xs 28 0 [some (iq_r 0), some (iq_i 1)] [] g l (fun r g1 l2 => ∃ z3, r = some (iq_i z3) ∧ ((z3 = 0 ∨ z3 = 1) ∧ Q (some (iq_i z3)) g1 l2)))) ∧
    ((0 : Int) ≤ v2 → ((-2147483648 ≤ v4 ∧ v4 ≤ 2147483647) ∧
      (v4 < (0 : Int) → (iq_P N xs 28 0 [some (iq_r 0), some (iq_i 1)] [] g l (fun r g4 l5 => ∃ z6, r = some (iq_i z6) ∧ ((z6 = 0 ∨ z6 = 1) ∧ Q (some (iq_i z6)) g4 l5)))) ∧
      ((0 : Int) ≤ v4 → ((-2147483648 ≤ v5 ∧ v5 ≤ 2147483647) ∧
        ((0 : Int) ≤ v5 → (iq_P N xs 35 0 [some (iq_r 6)] [] g l (fun r g7 l8 => ∃ z9, r = some (iq_i z9) ∧ ((-2147483648 ≤ z9 ∧ z9 ≤ 2147483647) ∧
            (¬ z9 = (0 : Int) → (iq_P N xs 28 0 [some (iq_r 0), some (iq_i 2)] [] g7 l8 (fun r g10 l11 => ∃ z12, r = some (iq_i z12) ∧ ((z12 = 0 ∨ z12 = 1) ∧ Q (some (iq_i z12)) g10 l11)))) ∧
            (z9 = (0 : Int) → (iq_P N xs 35 0 [some (iq_r 6)] [] g7 l8 (fun r g13 l14 => ∃ z15, r = some (iq_i z15) ∧ ((-2147483648 ≤ z15 ∧ z15 ≤ 2147483647) ∧
                (z15 = (0 : Int) → ((-2147483648 ≤ (g13 6 1) ∧ (g13 6 1) ≤ 2147483647 ∧ -2147483648 ≤ (g13 6 1) ∧ (g13 6 1) ≤ 2147483647) ∧
                  ((g13 6 1) = (g13 6 1) → (iq_P N xs 48 0 [some (iq_r 6), some (iq_i v2), some (iq_i v5)] [] g13 l14 (fun r g16 l17 => ∃ z18, r = some (iq_i z18) ∧ ((-2147483648 ≤ z18 ∧ z18 ≤ 2147483647) ∧
                      (z18 = (0 : Int) → (iq_P N xs 28 0 [some (iq_r 0), some (iq_i 3)] [] g16 l17 (fun r g19 l20 => ∃ z21, r = some (iq_i z21) ∧ ((z21 = 0 ∨ z21 = 1) ∧ Q (some (iq_i z21)) g19 l20)))) ∧
                      (¬ z18 = (0 : Int) → (iq_P N xs 48 0 [some (iq_r 6), some (iq_i v4), some (iq_i v5)] [] g16 l17 (fun r g22 l23 => ∃ z24, r = some (iq_i z24) ∧ ((-2147483648 ≤ z24 ∧ z24 ≤ 2147483647) ∧
                          (¬ z24 = (0 : Int) → ((0 ≤ v2 ∧ 0 ≤ v4 ∧ 0 ≤ v5 ∧ v2 + v5 ≤ 60 ∧ v4 + v5 ≤ 60) ∧ (iq_P N xs 49 133 [some (iq_r 0), some (iq_i v1), some (iq_i v2), some (iq_i v3), some (iq_i v4), some (iq_i v5), some (iq_r 6), some (iq_r 6)] [] g22 (iq_rz l23 7 (iq_cz (l23 7) (l23 7) v2 v4 v5)) Q))) ∧
                          (z24 = (0 : Int) → (iq_P N xs 28 0 [some (iq_r 0), some (iq_i 3)] [] g22 l23 (fun r g25 l26 => ∃ z27, r = some (iq_i z27) ∧ ((z27 = 0 ∨ z27 = 1) ∧ Q (some (iq_i z27)) g25 l26)))))))))))) ∧
                  (¬ (g13 6 1) = (g13 6 1) → (iq_P N xs 28 0 [some (iq_r 0), some (iq_i 8)] [] g13 l14 (fun r g28 l29 => ∃ z30, r = some (iq_i z30) ∧ ((z30 = 0 ∨ z30 = 1) ∧ Q (some (iq_i z30)) g28 l29)))))) ∧
                (¬ z15 = (0 : Int) → (iq_P N xs 28 0 [some (iq_r 0), some (iq_i 2)] [] g13 l14 (fun r g31 l32 => ∃ z33, r = some (iq_i z33) ∧ ((z33 = 0 ∨ z33 = 1) ∧ Q (some (iq_i z33)) g31 l32)))))))))))) ∧
        (v5 < (0 : Int) → (iq_P N xs 28 0 [some (iq_r 0), some (iq_i 1)] [] g l (fun r g34 l35 => ∃ z36, r = some (iq_i z36) ∧ ((z36 = 0 ∨ z36 = 1) ∧ Q (some (iq_i z36)) g34 l35))))))))) :
    iq_P N xs 49 12 [some (iq_r 0), some (iq_i v1), some (iq_i v2), some (iq_i v3), some (iq_i v4), some (iq_i v5), some (iq_r 6), none] [iq_r 6] g l Q := iq_w_ok (cuts := [133]) 40 12 _ _ _ _ H

-- ScaleForge.pour(IIIII)Z at 12
set_option maxRecDepth 20000 in
theorem B49_q12_8_6 {N : Nat} {xs : Nat → Int32} {Q : iq_T} (v1 : Int) (v2 : Int) (v3 : Int) (v4 : Int) (v5 : Int) (g : iq_I) (l : iq_J) (H : (-2147483648 ≤ v2 ∧ v2 ≤ 2147483647) ∧
    (v2 < (0 : Int) → (iq_P N xs 28 0 [some (iq_r 0), some (iq_i 1)] [] g l (fun r g1 l2 => ∃ z3, r = some (iq_i z3) ∧ ((z3 = 0 ∨ z3 = 1) ∧ Q (some (iq_i z3)) g1 l2)))) ∧
    ((0 : Int) ≤ v2 → ((-2147483648 ≤ v4 ∧ v4 ≤ 2147483647) ∧
      (v4 < (0 : Int) → (iq_P N xs 28 0 [some (iq_r 0), some (iq_i 1)] [] g l (fun r g4 l5 => ∃ z6, r = some (iq_i z6) ∧ ((z6 = 0 ∨ z6 = 1) ∧ Q (some (iq_i z6)) g4 l5)))) ∧
      ((0 : Int) ≤ v4 → ((-2147483648 ≤ v5 ∧ v5 ≤ 2147483647) ∧
        ((0 : Int) ≤ v5 → (iq_P N xs 35 0 [some (iq_r 6)] [] g l (fun r g7 l8 => ∃ z9, r = some (iq_i z9) ∧ ((-2147483648 ≤ z9 ∧ z9 ≤ 2147483647) ∧
            (¬ z9 = (0 : Int) → (iq_P N xs 28 0 [some (iq_r 0), some (iq_i 2)] [] g7 l8 (fun r g10 l11 => ∃ z12, r = some (iq_i z12) ∧ ((z12 = 0 ∨ z12 = 1) ∧ Q (some (iq_i z12)) g10 l11)))) ∧
            (z9 = (0 : Int) → (iq_P N xs 35 0 [some (iq_r 8)] [] g7 l8 (fun r g13 l14 => ∃ z15, r = some (iq_i z15) ∧ ((-2147483648 ≤ z15 ∧ z15 ≤ 2147483647) ∧
                (z15 = (0 : Int) → ((-2147483648 ≤ (g13 6 1) ∧ (g13 6 1) ≤ 2147483647 ∧ -2147483648 ≤ (g13 8 1) ∧ (g13 8 1) ≤ 2147483647) ∧
                  ((g13 6 1) = (g13 8 1) → (iq_P N xs 48 0 [some (iq_r 6), some (iq_i v2), some (iq_i v5)] [] g13 l14 (fun r g16 l17 => ∃ z18, r = some (iq_i z18) ∧ ((-2147483648 ≤ z18 ∧ z18 ≤ 2147483647) ∧
                      (z18 = (0 : Int) → (iq_P N xs 28 0 [some (iq_r 0), some (iq_i 3)] [] g16 l17 (fun r g19 l20 => ∃ z21, r = some (iq_i z21) ∧ ((z21 = 0 ∨ z21 = 1) ∧ Q (some (iq_i z21)) g19 l20)))) ∧
                      (¬ z18 = (0 : Int) → (iq_P N xs 48 0 [some (iq_r 8), some (iq_i v4), some (iq_i v5)] [] g16 l17 (fun r g22 l23 => ∃ z24, r = some (iq_i z24) ∧ ((-2147483648 ≤ z24 ∧ z24 ≤ 2147483647) ∧
                          (¬ z24 = (0 : Int) → ((0 ≤ v2 ∧ 0 ≤ v4 ∧ 0 ≤ v5 ∧ v2 + v5 ≤ 60 ∧ v4 + v5 ≤ 60) ∧ (iq_P N xs 49 133 [some (iq_r 0), some (iq_i v1), some (iq_i v2), some (iq_i v3), some (iq_i v4), some (iq_i v5), some (iq_r 6), some (iq_r 8)] [] g22 (iq_rz l23 9 (iq_cz (l23 7) (l23 9) v2 v4 v5)) Q))) ∧
                          (z24 = (0 : Int) → (iq_P N xs 28 0 [some (iq_r 0), some (iq_i 3)] [] g22 l23 (fun r g25 l26 => ∃ z27, r = some (iq_i z27) ∧ ((z27 = 0 ∨ z27 = 1) ∧ Q (some (iq_i z27)) g25 l26)))))))))))) ∧
                  (¬ (g13 6 1) = (g13 8 1) → (iq_P N xs 28 0 [some (iq_r 0), some (iq_i 8)] [] g13 l14 (fun r g28 l29 => ∃ z30, r = some (iq_i z30) ∧ ((z30 = 0 ∨ z30 = 1) ∧ Q (some (iq_i z30)) g28 l29)))))) ∧
                (¬ z15 = (0 : Int) → (iq_P N xs 28 0 [some (iq_r 0), some (iq_i 2)] [] g13 l14 (fun r g31 l32 => ∃ z33, r = some (iq_i z33) ∧ ((z33 = 0 ∨ z33 = 1) ∧ Q (some (iq_i z33)) g31 l32)))))))))))) ∧
        (v5 < (0 : Int) → (iq_P N xs 28 0 [some (iq_r 0), some (iq_i 1)] [] g l (fun r g34 l35 => ∃ z36, r = some (iq_i z36) ∧ ((z36 = 0 ∨ z36 = 1) ∧ Q (some (iq_i z36)) g34 l35))))))))) :
    iq_P N xs 49 12 [some (iq_r 0), some (iq_i v1), some (iq_i v2), some (iq_i v3), some (iq_i v4), some (iq_i v5), some (iq_r 6), none] [iq_r 8] g l Q := iq_w_ok (cuts := [133]) 40 12 _ _ _ _ H

-- ScaleForge.pour(IIIII)Z at 12
set_option maxRecDepth 20000 in
theorem B49_q12_null_4 {N : Nat} {xs : Nat → Int32} {Q : iq_T} (v1 : Int) (v2 : Int) (v3 : Int) (v4 : Int) (v5 : Int) (g : iq_I) (l : iq_J) (H : iq_P N xs 28 0 [some (iq_r 0), some (iq_i 1)] [] g l (fun r g1 l2 => ∃ z3, r = some (iq_i z3) ∧ ((z3 = 0 ∨ z3 = 1) ∧ Q (some (iq_i z3)) g1 l2))) :
    iq_P N xs 49 12 [some (iq_r 0), some (iq_i v1), some (iq_i v2), some (iq_i v3), some (iq_i v4), some (iq_i v5), some (iq_r 4), none] [iq_n] g l Q := iq_w_ok (cuts := []) 9 12 _ _ _ _ H

-- ScaleForge.pour(IIIII)Z at 12
set_option maxRecDepth 20000 in
theorem B49_q12_2_4 {N : Nat} {xs : Nat → Int32} {Q : iq_T} (v1 : Int) (v2 : Int) (v3 : Int) (v4 : Int) (v5 : Int) (g : iq_I) (l : iq_J) (H : (-2147483648 ≤ v2 ∧ v2 ≤ 2147483647) ∧
    (v2 < (0 : Int) → (iq_P N xs 28 0 [some (iq_r 0), some (iq_i 1)] [] g l (fun r g1 l2 => ∃ z3, r = some (iq_i z3) ∧ ((z3 = 0 ∨ z3 = 1) ∧ Q (some (iq_i z3)) g1 l2)))) ∧
    ((0 : Int) ≤ v2 → ((-2147483648 ≤ v4 ∧ v4 ≤ 2147483647) ∧
      (v4 < (0 : Int) → (iq_P N xs 28 0 [some (iq_r 0), some (iq_i 1)] [] g l (fun r g4 l5 => ∃ z6, r = some (iq_i z6) ∧ ((z6 = 0 ∨ z6 = 1) ∧ Q (some (iq_i z6)) g4 l5)))) ∧
      ((0 : Int) ≤ v4 → ((-2147483648 ≤ v5 ∧ v5 ≤ 2147483647) ∧
        ((0 : Int) ≤ v5 → (iq_P N xs 35 0 [some (iq_r 4)] [] g l (fun r g7 l8 => ∃ z9, r = some (iq_i z9) ∧ ((-2147483648 ≤ z9 ∧ z9 ≤ 2147483647) ∧
            (¬ z9 = (0 : Int) → (iq_P N xs 28 0 [some (iq_r 0), some (iq_i 2)] [] g7 l8 (fun r g10 l11 => ∃ z12, r = some (iq_i z12) ∧ ((z12 = 0 ∨ z12 = 1) ∧ Q (some (iq_i z12)) g10 l11)))) ∧
            (z9 = (0 : Int) → (iq_P N xs 35 0 [some (iq_r 2)] [] g7 l8 (fun r g13 l14 => ∃ z15, r = some (iq_i z15) ∧ ((-2147483648 ≤ z15 ∧ z15 ≤ 2147483647) ∧
                (z15 = (0 : Int) → ((-2147483648 ≤ (g13 4 1) ∧ (g13 4 1) ≤ 2147483647 ∧ -2147483648 ≤ (g13 2 1) ∧ (g13 2 1) ≤ 2147483647) ∧
                  ((g13 4 1) = (g13 2 1) → (iq_P N xs 48 0 [some (iq_r 4), some (iq_i v2), some (iq_i v5)] [] g13 l14 (fun r g16 l17 => ∃ z18, r = some (iq_i z18) ∧ ((-2147483648 ≤ z18 ∧ z18 ≤ 2147483647) ∧
                      (z18 = (0 : Int) → (iq_P N xs 28 0 [some (iq_r 0), some (iq_i 3)] [] g16 l17 (fun r g19 l20 => ∃ z21, r = some (iq_i z21) ∧ ((z21 = 0 ∨ z21 = 1) ∧ Q (some (iq_i z21)) g19 l20)))) ∧
                      (¬ z18 = (0 : Int) → (iq_P N xs 48 0 [some (iq_r 2), some (iq_i v4), some (iq_i v5)] [] g16 l17 (fun r g22 l23 => ∃ z24, r = some (iq_i z24) ∧ ((-2147483648 ≤ z24 ∧ z24 ≤ 2147483647) ∧
                          (¬ z24 = (0 : Int) → ((0 ≤ v2 ∧ 0 ≤ v4 ∧ 0 ≤ v5 ∧ v2 + v5 ≤ 60 ∧ v4 + v5 ≤ 60) ∧ (iq_P N xs 49 133 [some (iq_r 0), some (iq_i v1), some (iq_i v2), some (iq_i v3), some (iq_i v4), some (iq_i v5), some (iq_r 4), some (iq_r 2)] [] g22 (iq_rz l23 3 (iq_cz (l23 5) (l23 3) v2 v4 v5)) Q))) ∧
                          (z24 = (0 : Int) → (iq_P N xs 28 0 [some (iq_r 0), some (iq_i 3)] [] g22 l23 (fun r g25 l26 => ∃ z27, r = some (iq_i z27) ∧ ((z27 = 0 ∨ z27 = 1) ∧ Q (some (iq_i z27)) g25 l26)))))))))))) ∧
                  (¬ (g13 4 1) = (g13 2 1) → (iq_P N xs 28 0 [some (iq_r 0), some (iq_i 8)] [] g13 l14 (fun r g28 l29 => ∃ z30, r = some (iq_i z30) ∧ ((z30 = 0 ∨ z30 = 1) ∧ Q (some (iq_i z30)) g28 l29)))))) ∧
                (¬ z15 = (0 : Int) → (iq_P N xs 28 0 [some (iq_r 0), some (iq_i 2)] [] g13 l14 (fun r g31 l32 => ∃ z33, r = some (iq_i z33) ∧ ((z33 = 0 ∨ z33 = 1) ∧ Q (some (iq_i z33)) g31 l32)))))))))))) ∧
        (v5 < (0 : Int) → (iq_P N xs 28 0 [some (iq_r 0), some (iq_i 1)] [] g l (fun r g34 l35 => ∃ z36, r = some (iq_i z36) ∧ ((z36 = 0 ∨ z36 = 1) ∧ Q (some (iq_i z36)) g34 l35))))))))) :
    iq_P N xs 49 12 [some (iq_r 0), some (iq_i v1), some (iq_i v2), some (iq_i v3), some (iq_i v4), some (iq_i v5), some (iq_r 4), none] [iq_r 2] g l Q := iq_w_ok (cuts := [133]) 40 12 _ _ _ _ H

-- ScaleForge.pour(IIIII)Z at 12
set_option maxRecDepth 20000 in
theorem B49_q12_4_4 {N : Nat} {xs : Nat → Int32} {Q : iq_T} (v1 : Int) (v2 : Int) (v3 : Int) (v4 : Int) (v5 : Int) (g : iq_I) (l : iq_J) (H : (-2147483648 ≤ v2 ∧ v2 ≤ 2147483647) ∧
    (v2 < (0 : Int) → (iq_P N xs 28 0 [some (iq_r 0), some (iq_i 1)] [] g l (fun r g1 l2 => ∃ z3, r = some (iq_i z3) ∧ ((z3 = 0 ∨ z3 = 1) ∧ Q (some (iq_i z3)) g1 l2)))) ∧
    ((0 : Int) ≤ v2 → ((-2147483648 ≤ v4 ∧ v4 ≤ 2147483647) ∧
      (v4 < (0 : Int) → (iq_P N xs 28 0 [some (iq_r 0), some (iq_i 1)] [] g l (fun r g4 l5 => ∃ z6, r = some (iq_i z6) ∧ ((z6 = 0 ∨ z6 = 1) ∧ Q (some (iq_i z6)) g4 l5)))) ∧
      ((0 : Int) ≤ v4 → ((-2147483648 ≤ v5 ∧ v5 ≤ 2147483647) ∧
        ((0 : Int) ≤ v5 → (iq_P N xs 35 0 [some (iq_r 4)] [] g l (fun r g7 l8 => ∃ z9, r = some (iq_i z9) ∧ ((-2147483648 ≤ z9 ∧ z9 ≤ 2147483647) ∧
            (¬ z9 = (0 : Int) → (iq_P N xs 28 0 [some (iq_r 0), some (iq_i 2)] [] g7 l8 (fun r g10 l11 => ∃ z12, r = some (iq_i z12) ∧ ((z12 = 0 ∨ z12 = 1) ∧ Q (some (iq_i z12)) g10 l11)))) ∧
            (z9 = (0 : Int) → (iq_P N xs 35 0 [some (iq_r 4)] [] g7 l8 (fun r g13 l14 => ∃ z15, r = some (iq_i z15) ∧ ((-2147483648 ≤ z15 ∧ z15 ≤ 2147483647) ∧
                (z15 = (0 : Int) → ((-2147483648 ≤ (g13 4 1) ∧ (g13 4 1) ≤ 2147483647 ∧ -2147483648 ≤ (g13 4 1) ∧ (g13 4 1) ≤ 2147483647) ∧
                  ((g13 4 1) = (g13 4 1) → (iq_P N xs 48 0 [some (iq_r 4), some (iq_i v2), some (iq_i v5)] [] g13 l14 (fun r g16 l17 => ∃ z18, r = some (iq_i z18) ∧ ((-2147483648 ≤ z18 ∧ z18 ≤ 2147483647) ∧
                      (z18 = (0 : Int) → (iq_P N xs 28 0 [some (iq_r 0), some (iq_i 3)] [] g16 l17 (fun r g19 l20 => ∃ z21, r = some (iq_i z21) ∧ ((z21 = 0 ∨ z21 = 1) ∧ Q (some (iq_i z21)) g19 l20)))) ∧
                      (¬ z18 = (0 : Int) → (iq_P N xs 48 0 [some (iq_r 4), some (iq_i v4), some (iq_i v5)] [] g16 l17 (fun r g22 l23 => ∃ z24, r = some (iq_i z24) ∧ ((-2147483648 ≤ z24 ∧ z24 ≤ 2147483647) ∧
                          (¬ z24 = (0 : Int) → ((0 ≤ v2 ∧ 0 ≤ v4 ∧ 0 ≤ v5 ∧ v2 + v5 ≤ 60 ∧ v4 + v5 ≤ 60) ∧ (iq_P N xs 49 133 [some (iq_r 0), some (iq_i v1), some (iq_i v2), some (iq_i v3), some (iq_i v4), some (iq_i v5), some (iq_r 4), some (iq_r 4)] [] g22 (iq_rz l23 5 (iq_cz (l23 5) (l23 5) v2 v4 v5)) Q))) ∧
                          (z24 = (0 : Int) → (iq_P N xs 28 0 [some (iq_r 0), some (iq_i 3)] [] g22 l23 (fun r g25 l26 => ∃ z27, r = some (iq_i z27) ∧ ((z27 = 0 ∨ z27 = 1) ∧ Q (some (iq_i z27)) g25 l26)))))))))))) ∧
                  (¬ (g13 4 1) = (g13 4 1) → (iq_P N xs 28 0 [some (iq_r 0), some (iq_i 8)] [] g13 l14 (fun r g28 l29 => ∃ z30, r = some (iq_i z30) ∧ ((z30 = 0 ∨ z30 = 1) ∧ Q (some (iq_i z30)) g28 l29)))))) ∧
                (¬ z15 = (0 : Int) → (iq_P N xs 28 0 [some (iq_r 0), some (iq_i 2)] [] g13 l14 (fun r g31 l32 => ∃ z33, r = some (iq_i z33) ∧ ((z33 = 0 ∨ z33 = 1) ∧ Q (some (iq_i z33)) g31 l32)))))))))))) ∧
        (v5 < (0 : Int) → (iq_P N xs 28 0 [some (iq_r 0), some (iq_i 1)] [] g l (fun r g34 l35 => ∃ z36, r = some (iq_i z36) ∧ ((z36 = 0 ∨ z36 = 1) ∧ Q (some (iq_i z36)) g34 l35))))))))) :
    iq_P N xs 49 12 [some (iq_r 0), some (iq_i v1), some (iq_i v2), some (iq_i v3), some (iq_i v4), some (iq_i v5), some (iq_r 4), none] [iq_r 4] g l Q := iq_w_ok (cuts := [133]) 40 12 _ _ _ _ H
