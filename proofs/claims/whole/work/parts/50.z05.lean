/-! What must hold that a stretch of a method ends well: methods 84 to 116. -/
-- ScaleForge$Reader.takeSemicolon()Z at 0
set_option maxRecDepth 20000 in
theorem B84_10 {N : Nat} {xs : Nat → Int32} {Q : iq_T} (g : iq_I) (l : iq_J) (H : iq_P N xs 64 0 [some (iq_r 10), none] [] g l (fun r g1 l2 => ∃ z3, r = some (iq_i z3) ∧ ((-2147483648 ≤ z3 ∧ z3 ≤ 2147483647) ∧
      (z3 = (0 : Int) → (Q (some (iq_i 0)) g1 l2)) ∧
      (¬ z3 = (0 : Int) → (iq_P N xs 76 0 [some (iq_r 10), some (iq_i 59)] [] g1 l2 (fun r g4 l5 => ∃ z6, r = some (iq_i z6) ∧ ((-2147483648 ≤ z6 ∧ z6 ≤ 2147483647) ∧
          (¬ z6 = (0 : Int) → (Q (some (iq_i 1)) g4 l5)) ∧
          (z6 = (0 : Int) → (iq_P N xs 63 0 [some (iq_r 10), some (iq_i 2)] [] g4 l5 (fun r g7 l8 => ∃ z9, r = some (iq_i z9) ∧ ((-2147483648 ≤ z9 ∧ z9 ≤ 2147483647) ∧
              (z9 = (0 : Int) → (Q (some (iq_i 0)) g7 l8)) ∧
              (¬ z9 = (0 : Int) → (Q (some (iq_i 1)) g7 l8))))))))))))) :
    iq_P N xs 84 0 [some (iq_r 10)] [] g l Q := iq_w_ok (cuts := []) 14 0 _ _ _ _ H

-- ScaleForge$ScaleText.takePart(I)Z at 0
set_option maxRecDepth 20000 in
theorem B85_12 {N : Nat} {xs : Nat → Int32} {Q : iq_T} (a0 : Int) (g : iq_I) (l : iq_J) (H : (-2147483648 ≤ a0 ∧ a0 ≤ 2147483647) ∧
    (¬ a0 = (-1 : Int) → (iq_P N xs 75 0 [some (iq_r 12), some (iq_i a0), none, none] [] g l (fun r g1 l2 => ∃ z3, r = some (iq_i z3) ∧ ((-2147483648 ≤ z3 ∧ z3 ≤ 2147483647) ∧
        (z3 = (0 : Int) → (iq_P N xs 6 0 [some (iq_i a0)] [] g1 l2 (fun r g4 l5 => ∃ x6, r = some (iq_l x6) ∧ ((-2147483648 ≤ a0 ∧ a0 ≤ 2147483647) ∧
            (¬ a0 = (9 : Int) → (iq_P N xs 79 0 [some (iq_i a0)] [] g4 (iq_uz l5 12 2 ((l2 12 2) ||| x6)) (fun r g7 l8 => ∃ z9, r = some (iq_i z9) ∧ (iq_P N xs 80 0 [some (iq_r 13)] [] g7 l8 (fun r g10 l11 => ∃ z12, r = some (iq_i z12) ∧ (iq_P N xs 81 0 [some (iq_i a0), some (iq_i z12)] [] g10 l11 (fun r g13 l14 => ∃ z15, r = some (iq_i z15) ∧ (iq_P N xs 82 0 [some (iq_r 10), some (iq_i z9), some (iq_i z15)] [] g13 l14 (fun r g16 l17 => ∃ z18, r = some (iq_i z18) ∧ ((-2147483648 ≤ z18 ∧ z18 ≤ 2147483647) ∧
                      (¬ z18 = (0 : Int) → (iq_P N xs 83 0 [some (iq_r 13), some (iq_i a0), some (iq_i (g16 10 6))] [] g16 l17 (fun r g19 l20 => r = none ∧ (iq_P N xs 85 97 [some (iq_r 12), some (iq_i a0)] [] g19 l20 Q)))) ∧
                      (z18 = (0 : Int) → (Q (some (iq_i 0)) g16 l17)))))))))))) ∧
            (a0 = (9 : Int) → (iq_P N xs 78 0 [some (iq_r 12), none] [] g4 (iq_uz l5 12 2 ((l2 12 2) ||| x6)) (fun r g21 l22 => ∃ z23, r = some (iq_i z23) ∧ ((z23 = 0 ∨ z23 = 1) ∧ Q (some (iq_i z23)) g21 l22)))))))) ∧
        (¬ z3 = (0 : Int) → (iq_P N xs 63 0 [some (iq_r 10), some (iq_i 5)] [] g1 l2 (fun r g24 l25 => ∃ z26, r = some (iq_i z26) ∧ ((z26 = 0 ∨ z26 = 1) ∧ Q (some (iq_i z26)) g24 l25)))))))) ∧
    (a0 = (-1 : Int) → (iq_P N xs 63 0 [some (iq_r 10), some (iq_i 2)] [] g l (fun r g27 l28 => ∃ z29, r = some (iq_i z29) ∧ ((z29 = 0 ∨ z29 = 1) ∧ Q (some (iq_i z29)) g27 l28))))) :
    iq_P N xs 85 0 [some (iq_r 12), some (iq_i a0)] [] g l Q := iq_w_ok (cuts := [97]) 35 0 _ _ _ _ H

-- ScaleForge$ScaleText.takePart(I)Z at 97
set_option maxRecDepth 20000 in
theorem B85_p97_12 {N : Nat} {xs : Nat → Int32} {Q : iq_T} (v1 : Int) (g : iq_I) (l : iq_J) (H : iq_P N xs 84 0 [some (iq_r 10)] [] g l (fun r g1 l2 => ∃ z3, r = some (iq_i z3) ∧ ((z3 = 0 ∨ z3 = 1) ∧ Q (some (iq_i z3)) g1 l2))) :
    iq_P N xs 85 97 [some (iq_r 12), some (iq_i v1)] [] g l Q := iq_w_ok (cuts := [97]) 4 97 _ _ _ _ H

-- ScaleForge$ScaleText.parse(I)Z at 0
set_option maxRecDepth 20000 in
theorem B86_12 {N : Nat} {xs : Nat → Int32} {Q : iq_T} (a0 : Int) (g : iq_I) (l : iq_J) (H : iq_P N xs 55 0 [some (iq_r 10), some (iq_i a0)] [] g l (fun r g1 l2 => r = none ∧ (iq_P N xs 2 0 [some (iq_r 13)] [] g1 l2 (fun r g3 l4 => r = none ∧ (iq_P N xs 86 22 [some (iq_r 12), some (iq_i a0), some (iq_i 0)] [] g3 (iq_uz l4 12 2 (0 : Int64)) Q))))) :
    iq_P N xs 86 0 [some (iq_r 12), some (iq_i a0), none] [] g l Q := iq_w_ok (cuts := [22]) 12 0 _ _ _ _ H

-- ScaleForge$ScaleText.parse(I)Z at 22
set_option maxRecDepth 20000 in
theorem B86_p22_12 {N : Nat} {xs : Nat → Int32} {Q : iq_T} (v1 : Int) (v2 : Int) (g : iq_I) (l : iq_J) (H : (-2147483648 ≤ v2 ∧ v2 ≤ 2147483647) ∧
    ((900 : Int) < v2 → (iq_P N xs 63 0 [some (iq_r 10), some (iq_i 2)] [] g l (fun r g1 l2 => ∃ z3, r = some (iq_i z3) ∧ ((z3 = 0 ∨ z3 = 1) ∧ Q (some (iq_i z3)) g1 l2)))) ∧
    (v2 ≤ (900 : Int) → (iq_P N xs 64 0 [some (iq_r 10), none] [] g l (fun r g4 l5 => ∃ z6, r = some (iq_i z6) ∧ ((-2147483648 ≤ z6 ∧ z6 ≤ 2147483647) ∧
        (¬ z6 = (0 : Int) → ((-2147483648 ≤ (g4 10 4) ∧ (g4 10 4) ≤ 2147483647) ∧
          (¬ (g4 10 4) = (0 : Int) → (iq_P N xs 73 0 [some (iq_r 12)] [] g4 l5 (fun r g7 l8 => ∃ z9, r = some (iq_i z9) ∧ (iq_P N xs 85 0 [some (iq_r 12), some (iq_i z9)] [] g7 l8 (fun r g10 l11 => ∃ z12, r = some (iq_i z12) ∧ ((-2147483648 ≤ z12 ∧ z12 ≤ 2147483647) ∧
                (¬ z12 = (0 : Int) → (iq_P N xs 86 22 [some (iq_r 12), some (iq_i v1), some (iq_i (v2 + 1))] [] g10 l11 Q)) ∧
                (z12 = (0 : Int) → (Q (some (iq_i 0)) g10 l11)))))))) ∧
          ((g4 10 4) = (0 : Int) → (iq_P N xs 9 0 [some (iq_r 13), none] [] g4 l5 (fun r g13 l14 => r = none ∧ (Q (some (iq_i 1)) g13 l14)))))) ∧
        (z6 = (0 : Int) → (Q (some (iq_i 0)) g4 l5))))))) :
    iq_P N xs 86 22 [some (iq_r 12), some (iq_i v1), some (iq_i v2)] [] g l Q := iq_w_ok (cuts := [22]) 18 22 _ _ _ _ H

-- ScaleForge.scale(I)I at 0
set_option maxRecDepth 20000 in
theorem B91_0 {N : Nat} {xs : Nat → Int32} {Q : iq_T} (a0 : Int) (g : iq_I) (l : iq_J) (H : (-2147483648 ≤ a0 ∧ a0 ≤ 2147483647) ∧
    (a0 < (0 : Int) → (iq_P N xs 44 0 [some (iq_r 0), some (iq_i 1)] [] g l (fun r g1 l2 => ∃ z3, r = some (iq_i z3) ∧ (Q (some (iq_i z3)) g1 l2)))) ∧
    ((0 : Int) ≤ a0 → ((-2147483648 ≤ a0 ∧ a0 ≤ 2147483647 ∧ -2147483648 ≤ (g 10 1) ∧ (g 10 1) ≤ 2147483647) ∧
      (a0 ≤ (g 10 1) → (iq_P N xs 86 0 [some (iq_r 12), some (iq_i a0), none] [] g l (fun r g4 l5 => ∃ z6, r = some (iq_i z6) ∧ ((-2147483648 ≤ z6 ∧ z6 ≤ 2147483647) ∧
          (¬ z6 = (0 : Int) → (iq_P N xs 87 0 [some (iq_r 23), some (iq_r 13)] [] (iq_uz g4 10 1 0) l5 (fun r g7 l8 => r = none ∧ (iq_P N xs 89 0 [some (iq_r 23)] [] (iq_uz g7 26 5 0) l8 (fun r g9 l10 => ∃ z11, r = some (iq_i z11) ∧ (iq_P N xs 90 0 [some (iq_r 0), some (iq_i z11)] [] g9 l10 (fun r g12 l13 => ∃ z14, r = some (iq_i z14) ∧ (Q (some (iq_i z14)) g12 l13)))))))) ∧
          (z6 = (0 : Int) → (iq_P N xs 44 0 [some (iq_r 0), some (iq_i 9)] [] (iq_uz g4 10 1 0) l5 (fun r g15 l16 => ∃ z17, r = some (iq_i z17) ∧ (Q (some (iq_i z17)) g15 l16)))))))) ∧
      ((g 10 1) < a0 → (iq_P N xs 44 0 [some (iq_r 0), some (iq_i 1)] [] g l (fun r g18 l19 => ∃ z20, r = some (iq_i z20) ∧ (Q (some (iq_i z20)) g18 l19))))))) :
    iq_P N xs 91 0 [some (iq_r 0), some (iq_i a0), none] [] g l Q := iq_w_ok (cuts := []) 34 0 _ _ _ _ H

-- ScaleForgeModel.byteAt(I)I at 0
set_option maxRecDepth 20000 in
theorem B92_77 {N : Nat} {xs : Nat → Int32} {Q : iq_T} (a0 : Int) (g : iq_I) (l : iq_J) (H : (-2147483648 ≤ a0 ∧ a0 ≤ 2147483647 ∧ -2147483648 ≤ (g 77 10) ∧ (g 77 10) ≤ 2147483647) ∧
    ((g 77 10) ≤ a0 → (Q (some (iq_i (-1))) g l)) ∧
    (a0 < (g 77 10) → ((0 ≤ a0 ∧ a0 < 900) ∧ (Q (some (iq_i (iq_and (g 83 a0) 255))) g l)))) :
    iq_P N xs 92 0 [some (iq_r 77), some (iq_i a0)] [] g l Q := iq_w_ok (cuts := []) 12 0 _ _ _ _ H

-- ScaleForgeModel.isSmall(I)Z at 0
set_option maxRecDepth 20000 in
theorem B93 {N : Nat} {xs : Nat → Int32} {Q : iq_T} (a0 : Int) (g : iq_I) (l : iq_J) (H : (-2147483648 ≤ a0 ∧ a0 ≤ 2147483647) ∧
    (a0 < (97 : Int) → (Q (some (iq_i 0)) g l)) ∧
    ((97 : Int) ≤ a0 → ((-2147483648 ≤ a0 ∧ a0 ≤ 2147483647) ∧
      ((122 : Int) < a0 → (Q (some (iq_i 0)) g l)) ∧
      (a0 ≤ (122 : Int) → (Q (some (iq_i 1)) g l))))) :
    iq_P N xs 93 0 [some (iq_i a0)] [] g l Q := iq_w_ok (cuts := []) 9 0 _ _ _ _ H

-- ScaleForgeModel.isDigit(I)Z at 0
set_option maxRecDepth 20000 in
theorem B94 {N : Nat} {xs : Nat → Int32} {Q : iq_T} (a0 : Int) (g : iq_I) (l : iq_J) (H : (-2147483648 ≤ a0 ∧ a0 ≤ 2147483647) ∧
    (a0 < (48 : Int) → (Q (some (iq_i 0)) g l)) ∧
    ((48 : Int) ≤ a0 → ((-2147483648 ≤ a0 ∧ a0 ≤ 2147483647) ∧
      ((57 : Int) < a0 → (Q (some (iq_i 0)) g l)) ∧
      (a0 ≤ (57 : Int) → (Q (some (iq_i 1)) g l))))) :
    iq_P N xs 94 0 [some (iq_i a0)] [] g l Q := iq_w_ok (cuts := []) 9 0 _ _ _ _ H

-- ScaleForgeModel.ahead()V at 0
set_option maxRecDepth 20000 in
theorem B96_77 {N : Nat} {xs : Nat → Int32} {Q : iq_T} (g : iq_I) (l : iq_J) (H : iq_P N xs 92 0 [some (iq_r 77), some (iq_i (g 77 13))] [] g l (fun r g1 l2 => ∃ z3, r = some (iq_i z3) ∧ ((-2147483648 ≤ z3 ∧ z3 ≤ 2147483647) ∧
      (z3 = (32 : Int) → (iq_P N xs 96 0 [some (iq_r 77), none] [] (iq_uz g1 77 13 ((g1 77 13) + 1)) l2 Q)) ∧
      (¬ z3 = (32 : Int) → (iq_P N xs 92 0 [some (iq_r 77), some (iq_i (g1 77 13))] [] g1 l2 (fun r g4 l5 => ∃ z6, r = some (iq_i z6) ∧ ((-2147483648 ≤ z6 ∧ z6 ≤ 2147483647) ∧
          (¬ z6 = (10 : Int) → (iq_P N xs 92 0 [some (iq_r 77), some (iq_i (g4 77 13))] [] (iq_uz g4 77 12 (g4 77 13)) l5 (fun r g7 l8 => ∃ z9, r = some (iq_i z9) ∧ ((-2147483648 ≤ z9 ∧ z9 ≤ 2147483647) ∧
              (¬ z9 = (-1 : Int) → (iq_P N xs 93 0 [some (iq_i z9)] [] (iq_uz g7 77 14 z9) l8 (fun r g10 l11 => ∃ z12, r = some (iq_i z12) ∧ ((-2147483648 ≤ z12 ∧ z12 ≤ 2147483647) ∧
                  (z12 = (0 : Int) → (iq_P N xs 94 0 [some (iq_i z9)] [] g10 l11 (fun r g13 l14 => ∃ z15, r = some (iq_i z15) ∧ ((-2147483648 ≤ z15 ∧ z15 ≤ 2147483647) ∧
                      (z15 = (0 : Int) → (iq_P N xs 96 218 [some (iq_r 77), some (iq_i z9)] [] (iq_uz g13 77 13 ((g13 77 13) + 1)) l14 Q)) ∧
                      (¬ z15 = (0 : Int) → (iq_P N xs 96 128 [some (iq_r 77), some (iq_i z9)] [] (iq_uz g13 77 14 0) l14 Q)))))) ∧
                  (¬ z12 = (0 : Int) → (iq_P N xs 96 81 [some (iq_r 77), some (iq_i z9)] [] g10 l11 Q)))))) ∧
              (z9 = (-1 : Int) → (Q (none) (iq_uz (iq_uz g7 77 14 z9) 77 11 0) l8)))))) ∧
          (z6 = (10 : Int) → (iq_P N xs 96 0 [some (iq_r 77), none] [] (iq_uz g4 77 13 ((g4 77 13) + 1)) l5 Q))))))))) :
    iq_P N xs 96 0 [some (iq_r 77), none] [] g l Q := iq_w_ok (cuts := [0, 81, 128, 218]) 39 0 _ _ _ _ H

-- ScaleForgeModel.ahead()V at 0
set_option maxRecDepth 20000 in
theorem B96_p0_77 {N : Nat} {xs : Nat → Int32} {Q : iq_T} (g : iq_I) (l : iq_J) (H : iq_P N xs 92 0 [some (iq_r 77), some (iq_i (g 77 13))] [] g l (fun r g1 l2 => ∃ z3, r = some (iq_i z3) ∧ ((-2147483648 ≤ z3 ∧ z3 ≤ 2147483647) ∧
      (z3 = (32 : Int) → (iq_P N xs 96 0 [some (iq_r 77), none] [] (iq_uz g1 77 13 ((g1 77 13) + 1)) l2 Q)) ∧
      (¬ z3 = (32 : Int) → (iq_P N xs 92 0 [some (iq_r 77), some (iq_i (g1 77 13))] [] g1 l2 (fun r g4 l5 => ∃ z6, r = some (iq_i z6) ∧ ((-2147483648 ≤ z6 ∧ z6 ≤ 2147483647) ∧
          (¬ z6 = (10 : Int) → (iq_P N xs 92 0 [some (iq_r 77), some (iq_i (g4 77 13))] [] (iq_uz g4 77 12 (g4 77 13)) l5 (fun r g7 l8 => ∃ z9, r = some (iq_i z9) ∧ ((-2147483648 ≤ z9 ∧ z9 ≤ 2147483647) ∧
              (¬ z9 = (-1 : Int) → (iq_P N xs 93 0 [some (iq_i z9)] [] (iq_uz g7 77 14 z9) l8 (fun r g10 l11 => ∃ z12, r = some (iq_i z12) ∧ ((-2147483648 ≤ z12 ∧ z12 ≤ 2147483647) ∧
                  (z12 = (0 : Int) → (iq_P N xs 94 0 [some (iq_i z9)] [] g10 l11 (fun r g13 l14 => ∃ z15, r = some (iq_i z15) ∧ ((-2147483648 ≤ z15 ∧ z15 ≤ 2147483647) ∧
                      (z15 = (0 : Int) → (iq_P N xs 96 218 [some (iq_r 77), some (iq_i z9)] [] (iq_uz g13 77 13 ((g13 77 13) + 1)) l14 Q)) ∧
                      (¬ z15 = (0 : Int) → (iq_P N xs 96 128 [some (iq_r 77), some (iq_i z9)] [] (iq_uz g13 77 14 0) l14 Q)))))) ∧
                  (¬ z12 = (0 : Int) → (iq_P N xs 96 81 [some (iq_r 77), some (iq_i z9)] [] g10 l11 Q)))))) ∧
              (z9 = (-1 : Int) → (Q (none) (iq_uz (iq_uz g7 77 14 z9) 77 11 0) l8)))))) ∧
          (z6 = (10 : Int) → (iq_P N xs 96 0 [some (iq_r 77), none] [] (iq_uz g4 77 13 ((g4 77 13) + 1)) l5 Q))))))))) :
    iq_P N xs 96 0 [some (iq_r 77), none] [] g l Q := iq_w_ok (cuts := [0, 81, 128, 218]) 39 0 _ _ _ _ H

-- ScaleForgeModel.ahead()V at 81
set_option maxRecDepth 20000 in
theorem B96_p81_77 {N : Nat} {xs : Nat → Int32} {Q : iq_T} (v1 : Int) (g : iq_I) (l : iq_J) (H : iq_P N xs 92 0 [some (iq_r 77), some (iq_i (g 77 13))] [] g l (fun r g1 l2 => ∃ z3, r = some (iq_i z3) ∧ (iq_P N xs 93 0 [some (iq_i z3)] [] g1 l2 (fun r g4 l5 => ∃ z6, r = some (iq_i z6) ∧ ((-2147483648 ≤ z6 ∧ z6 ≤ 2147483647) ∧
        (z6 = (0 : Int) → (Q (none) (iq_uz g4 77 11 2) l5)) ∧
        (¬ z6 = (0 : Int) → (iq_P N xs 96 81 [some (iq_r 77), some (iq_i v1)] [] (iq_uz g4 77 13 ((g4 77 13) + 1)) l5 Q))))))) :
    iq_P N xs 96 81 [some (iq_r 77), some (iq_i v1)] [] g l Q := iq_w_ok (cuts := [0, 81, 128, 218]) 13 81 _ _ _ _ H

-- ScaleForgeModel.ahead()V at 128
set_option maxRecDepth 20000 in
theorem B96_p128_77 {N : Nat} {xs : Nat → Int32} {Q : iq_T} (v1 : Int) (g : iq_I) (l : iq_J) (H : iq_P N xs 92 0 [some (iq_r 77), some (iq_i (g 77 13))] [] g l (fun r g1 l2 => ∃ z3, r = some (iq_i z3) ∧ (iq_P N xs 94 0 [some (iq_i z3)] [] g1 l2 (fun r g4 l5 => ∃ z6, r = some (iq_i z6) ∧ ((-2147483648 ≤ z6 ∧ z6 ≤ 2147483647) ∧
        (z6 = (0 : Int) → ((-2147483648 ≤ ((g4 77 13) - (g4 77 12)) ∧ ((g4 77 13) - (g4 77 12)) ≤ 2147483647) ∧
          (((g4 77 13) - (g4 77 12)) ≤ (4 : Int) → (Q (none) (iq_uz g4 77 11 3) l5)) ∧
          ((4 : Int) < ((g4 77 13) - (g4 77 12)) → (Q (none) (iq_uz g4 77 11 1) l5)))) ∧
        (¬ z6 = (0 : Int) → (iq_P N xs 92 0 [some (iq_r 77), some (iq_i (g4 77 13))] [] g4 l5 (fun r g7 l8 => ∃ z9, r = some (iq_i z9) ∧ (iq_P N xs 95 0 [some (iq_i 100000), some (iq_i (((10 * (g4 77 14)) + z9) - 48))] [] g7 l8 (fun r g10 l11 => ∃ z12, r = some (iq_i z12) ∧ (iq_P N xs 96 128 [some (iq_r 77), some (iq_i v1)] [] (iq_uz (iq_uz g10 77 14 z12) 77 13 ((g10 77 13) + 1)) l11 Q))))))))))) :
    iq_P N xs 96 128 [some (iq_r 77), some (iq_i v1)] [] g l Q := iq_w_ok (cuts := [0, 81, 128, 218]) 28 128 _ _ _ _ H

-- ScaleForgeModel.ahead()V at 218
set_option maxRecDepth 20000 in
theorem B96_p218_77 {N : Nat} {xs : Nat → Int32} {Q : iq_T} (v1 : Int) (g : iq_I) (l : iq_J) (H : (-2147483648 ≤ v1 ∧ v1 ≤ 2147483647) ∧
    (v1 = (59 : Int) → (Q (none) (iq_uz g 77 11 4) l)) ∧
    (¬ v1 = (59 : Int) → ((-2147483648 ≤ v1 ∧ v1 ≤ 2147483647) ∧
      (v1 = (60 : Int) → (Q (none) (iq_uz g 77 11 4) l)) ∧
      (¬ v1 = (60 : Int) → ((-2147483648 ≤ v1 ∧ v1 ≤ 2147483647) ∧
        (v1 = (62 : Int) → (Q (none) (iq_uz g 77 11 4) l)) ∧
        (¬ v1 = (62 : Int) → ((-2147483648 ≤ v1 ∧ v1 ≤ 2147483647) ∧
          (¬ v1 = (61 : Int) → (Q (none) (iq_uz g 77 11 1) l)) ∧
          (v1 = (61 : Int) → (Q (none) (iq_uz g 77 11 4) l))))))))) :
    iq_P N xs 96 218 [some (iq_r 77), some (iq_i v1)] [] g l Q := iq_w_ok (cuts := [0, 81, 128, 218]) 17 218 _ _ _ _ H

-- ScaleForgeModel.begins(II)Z at 0
set_option maxRecDepth 20000 in
theorem B97_77 {N : Nat} {xs : Nat → Int32} {Q : iq_T} (a0 : Int) (a1 : Int) (g : iq_I) (l : iq_J) (H : (-2147483648 ≤ a0 ∧ a0 ≤ 2147483647) ∧
    (a0 < (0 : Int) → (Q (some (iq_i 0)) g l)) ∧
    ((0 : Int) ≤ a0 → ((-2147483648 ≤ a0 ∧ a0 ≤ 2147483647 ∧ -2147483648 ≤ (g 77 9) ∧ (g 77 9) ≤ 2147483647) ∧
      ((g 77 9) < a0 → (Q (some (iq_i 0)) g l)) ∧
      (a0 ≤ (g 77 9) → ((-2147483648 ≤ a0 ∧ a0 ≤ 2147483647 ∧ -2147483648 ≤ a1 ∧ a1 ≤ 2147483647) ∧
        (a0 ≤ a1 → (iq_P N xs 97 26 [some (iq_r 77), some (iq_i a0), some (iq_i a1), some (iq_i 0)] [] (iq_uz g 77 10 a0) l Q)) ∧
        (a1 < a0 → (Q (some (iq_i 0)) g l))))))) :
    iq_P N xs 97 0 [some (iq_r 77), some (iq_i a0), some (iq_i a1), none] [] g l Q := iq_w_ok (cuts := [26]) 14 0 _ _ _ _ H

-- ScaleForgeModel.begins(II)Z at 26
set_option maxRecDepth 20000 in
theorem B97_p26_77 {N : Nat} {xs : Nat → Int32} {Q : iq_T} (v1 : Int) (v2 : Int) (v3 : Int) (g : iq_I) (l : iq_J) (H : (-2147483648 ≤ v3 ∧ v3 ≤ 2147483647 ∧ -2147483648 ≤ v1 ∧ v1 ≤ 2147483647) ∧
    (v1 ≤ v3 → (iq_P N xs 96 0 [some (iq_r 77), none] [] (iq_uz (iq_uz (iq_uz (iq_uz g 77 9 0) 77 17 0) 77 16 (-1)) 77 13 0) l (fun r g1 l2 => r = none ∧ (Q (some (iq_i 1)) g1 l2)))) ∧
    (v3 < v1 → ((0 ≤ v3 ∧ v3 < 900) ∧ ((0 ≤ v3 ∧ v3 < 900) ∧ (iq_P N xs 97 26 [some (iq_r 77), some (iq_i v1), some (iq_i v2), some (iq_i (v3 + 1))] [] (iq_uz g 83 v3 (iq_i2b (g 82 v3))) l Q))))) :
    iq_P N xs 97 26 [some (iq_r 77), some (iq_i v1), some (iq_i v2), some (iq_i v3)] [] g l Q := iq_w_ok (cuts := [26]) 19 26 _ _ _ _ H

-- ScaleForgeModel.inWords(Ljava/lang/String;)I at 0
set_option maxRecDepth 20000 in
theorem B99_77_1000033 {N : Nat} {xs : Nat → Int32} {Q : iq_T} (g : iq_I) (l : iq_J) (H : (-2147483648 ≤ (g 77 11) ∧ (g 77 11) ≤ 2147483647) ∧
    ((g 77 11) = (2 : Int) → (iq_P N xs 99 14 [some (iq_r 77), some (iq_r 1000033), some (iq_i 0), some (iq_i 1), none, none, none] [] g l Q)) ∧
    (¬ (g 77 11) = (2 : Int) → (Q (some (iq_i (-1))) g l))) :
    iq_P N xs 99 0 [some (iq_r 77), some (iq_r 1000033), none, none, none, none, none] [] g l Q := iq_w_ok (cuts := [14, 25, 68]) 8 0 _ _ _ _ H

-- ScaleForgeModel.inWords(Ljava/lang/String;)I at 14
set_option maxRecDepth 20000 in
theorem B99_p14_77_1000033 {N : Nat} {xs : Nat → Int32} {Q : iq_T} (v2 : Int) (v3 : Int) (d4 : Option iq_V) (d5 : Option iq_V) (d6 : Option iq_V) (g : iq_I) (l : iq_J) (H : iq_P N xs 66 0 [some (iq_r 1000033)] [] g l (fun r g1 l2 => ∃ z3, r = some (iq_i z3) ∧ ((-2147483648 ≤ v3 ∧ v3 ≤ 2147483647 ∧ -2147483648 ≤ z3 ∧ z3 ≤ 2147483647) ∧
      (z3 ≤ v3 → (Q (some (iq_i (-1))) g1 l2)) ∧
      (v3 < z3 → (iq_P N xs 99 25 [some (iq_r 77), some (iq_r 1000033), some (iq_i v2), some (iq_i v3), some (iq_i v3), (iq_nv d5), (iq_nv d6)] [] g1 l2 Q))))) :
    iq_P N xs 99 14 [some (iq_r 77), some (iq_r 1000033), some (iq_i v2), some (iq_i v3), d4, d5, d6] [] g l Q := iq_w_ok (cuts := [14, 25, 68]) 6 14 _ _ _ _ H

-- ScaleForgeModel.inWords(Ljava/lang/String;)I at 25
set_option maxRecDepth 20000 in
theorem B99_p25_77_1000033 {N : Nat} {xs : Nat → Int32} {Q : iq_T} (v2 : Int) (v3 : Int) (v4 : Int) (d5 : Option iq_V) (d6 : Option iq_V) (g : iq_I) (l : iq_J) (H : iq_P N xs 71 0 [some (iq_r 1000033), some (iq_i v4)] [] g l (fun r g1 l2 => ∃ z3, r = some (iq_i z3) ∧ ((-2147483648 ≤ z3 ∧ z3 ≤ 2147483647) ∧
      (z3 = (32 : Int) → ((-2147483648 ≤ (v4 - v3) ∧ (v4 - v3) ≤ 2147483647 ∧ -2147483648 ≤ ((g1 77 13) - (g1 77 12)) ∧ ((g1 77 13) - (g1 77 12)) ≤ 2147483647) ∧
        (¬ (v4 - v3) = ((g1 77 13) - (g1 77 12)) → (iq_P N xs 99 68 [some (iq_r 77), some (iq_r 1000033), some (iq_i v2), some (iq_i v3), some (iq_i v4), some (iq_i 0), some (iq_i v3)] [] g1 l2 Q)) ∧
        ((v4 - v3) = ((g1 77 13) - (g1 77 12)) → (iq_P N xs 99 68 [some (iq_r 77), some (iq_r 1000033), some (iq_i v2), some (iq_i v3), some (iq_i v4), some (iq_i 1), some (iq_i v3)] [] g1 l2 Q)))) ∧
      (¬ z3 = (32 : Int) → (iq_P N xs 99 25 [some (iq_r 77), some (iq_r 1000033), some (iq_i v2), some (iq_i v3), some (iq_i (v4 + 1)), (iq_nv d5), (iq_nv d6)] [] g1 l2 Q))))) :
    iq_P N xs 99 25 [some (iq_r 77), some (iq_r 1000033), some (iq_i v2), some (iq_i v3), some (iq_i v4), d5, d6] [] g l Q := iq_w_ok (cuts := [14, 25, 68]) 19 25 _ _ _ _ H

-- ScaleForgeModel.inWords(Ljava/lang/String;)I at 68
set_option maxRecDepth 20000 in
theorem B99_p68_77_1000033 {N : Nat} {xs : Nat → Int32} {Q : iq_T} (v2 : Int) (v3 : Int) (v4 : Int) (v5 : Int) (v6 : Int) (g : iq_I) (l : iq_J) (H : (-2147483648 ≤ v6 ∧ v6 ≤ 2147483647 ∧ -2147483648 ≤ v4 ∧ v4 ≤ 2147483647) ∧
    (v4 ≤ v6 → ((-2147483648 ≤ v5 ∧ v5 ≤ 2147483647) ∧
      (v5 = (0 : Int) → (iq_P N xs 99 14 [some (iq_r 77), some (iq_r 1000033), some (iq_i (v2 + 1)), some (iq_i (v4 + 1)), some (iq_i v4), some (iq_i v5), some (iq_i v6)] [] g l Q)) ∧
      (¬ v5 = (0 : Int) → (Q (some (iq_i v2)) g l)))) ∧
    (v6 < v4 → ((-2147483648 ≤ v5 ∧ v5 ≤ 2147483647) ∧
      (v5 = (0 : Int) → ((-2147483648 ≤ v5 ∧ v5 ≤ 2147483647) ∧
        (v5 = (0 : Int) → (iq_P N xs 99 14 [some (iq_r 77), some (iq_r 1000033), some (iq_i (v2 + 1)), some (iq_i (v4 + 1)), some (iq_i v4), some (iq_i v5), some (iq_i v6)] [] g l Q)) ∧
        (¬ v5 = (0 : Int) → (Q (some (iq_i v2)) g l)))) ∧
      (¬ v5 = (0 : Int) → (iq_P N xs 71 0 [some (iq_r 1000033), some (iq_i v6)] [] g l (fun r g1 l2 => ∃ z3, r = some (iq_i z3) ∧ (iq_P N xs 92 0 [some (iq_r 77), some (iq_i (((g1 77 12) + v6) - v3))] [] g1 l2 (fun r g4 l5 => ∃ z6, r = some (iq_i z6) ∧ ((-2147483648 ≤ z3 ∧ z3 ≤ 2147483647 ∧ -2147483648 ≤ z6 ∧ z6 ≤ 2147483647) ∧
            (¬ z3 = z6 → (iq_P N xs 99 68 [some (iq_r 77), some (iq_r 1000033), some (iq_i v2), some (iq_i v3), some (iq_i v4), some (iq_i 0), some (iq_i (v6 + 1))] [] g4 l5 Q)) ∧
            (z3 = z6 → (iq_P N xs 99 68 [some (iq_r 77), some (iq_r 1000033), some (iq_i v2), some (iq_i v3), some (iq_i v4), some (iq_i 1), some (iq_i (v6 + 1))] [] g4 l5 Q))))))))))) :
    iq_P N xs 99 68 [some (iq_r 77), some (iq_r 1000033), some (iq_i v2), some (iq_i v3), some (iq_i v4), some (iq_i v5), some (iq_i v6)] [] g l Q := iq_w_ok (cuts := [14, 25, 68]) 22 68 _ _ _ _ H

-- ScaleForgeModel.fails(I)Z at 0
set_option maxRecDepth 20000 in
theorem B100_77 {N : Nat} {xs : Nat → Int32} {Q : iq_T} (a0 : Int) (g : iq_I) (l : iq_J) (H : (-2147483648 ≤ (g 77 17) ∧ (g 77 17) ≤ 2147483647) ∧
    (¬ (g 77 17) = (0 : Int) → (Q (some (iq_i 0)) g l)) ∧
    ((g 77 17) = (0 : Int) → ((-2147483648 ≤ (g 77 11) ∧ (g 77 11) ≤ 2147483647) ∧
      (¬ (g 77 11) = (1 : Int) → (Q (some (iq_i 0)) (iq_uz (iq_uz g 77 17 a0) 77 16 (g 77 12)) l)) ∧
      ((g 77 11) = (1 : Int) → (Q (some (iq_i 0)) (iq_uz (iq_uz g 77 17 1) 77 16 (g 77 12)) l))))) :
    iq_P N xs 100 0 [some (iq_r 77), some (iq_i a0)] [] g l Q := iq_w_ok (cuts := []) 17 0 _ _ _ _ H

-- ScaleForgeModel.isIn(II)Z at 0
set_option maxRecDepth 20000 in
theorem B101_77 {N : Nat} {xs : Nat → Int32} {Q : iq_T} (a0 : Int) (a1 : Int) (g : iq_I) (l : iq_J) (H : (-2147483648 ≤ (iq_and (iq_shr a0 a1) 1) ∧ (iq_and (iq_shr a0 a1) 1) ≤ 2147483647) ∧
    (¬ (iq_and (iq_shr a0 a1) 1) = (1 : Int) → (Q (some (iq_i 0)) g l)) ∧
    ((iq_and (iq_shr a0 a1) 1) = (1 : Int) → (Q (some (iq_i 1)) g l))) :
    iq_P N xs 101 0 [some (iq_r 77), some (iq_i a0), some (iq_i a1)] [] g l Q := iq_w_ok (cuts := []) 10 0 _ _ _ _ H

-- ScaleForgeModel.number(III)Z at 0
set_option maxRecDepth 20000 in
theorem B102_77 {N : Nat} {xs : Nat → Int32} {Q : iq_T} (a0 : Int) (a1 : Int) (a2 : Int) (g : iq_I) (l : iq_J) (H : (-2147483648 ≤ (g 77 11) ∧ (g 77 11) ≤ 2147483647) ∧
    ((g 77 11) = (3 : Int) → ((-2147483648 ≤ (g 77 14) ∧ (g 77 14) ≤ 2147483647 ∧ -2147483648 ≤ a1 ∧ a1 ≤ 2147483647) ∧
      ((g 77 14) < a1 → (iq_P N xs 100 0 [some (iq_r 77), some (iq_i 4)] [] g l (fun r g1 l2 => ∃ z3, r = some (iq_i z3) ∧ ((z3 = 0 ∨ z3 = 1) ∧ Q (some (iq_i z3)) g1 l2)))) ∧
      (a1 ≤ (g 77 14) → ((-2147483648 ≤ (g 77 14) ∧ (g 77 14) ≤ 2147483647 ∧ -2147483648 ≤ a2 ∧ a2 ≤ 2147483647) ∧
        ((g 77 14) ≤ a2 → ((0 ≤ a0 ∧ a0 < 2392) ∧ (iq_P N xs 96 0 [some (iq_r 77), none] [] (iq_uz g 78 a0 (g 77 14)) l (fun r g4 l5 => r = none ∧ (Q (some (iq_i 1)) g4 l5))))) ∧
        (a2 < (g 77 14) → (iq_P N xs 100 0 [some (iq_r 77), some (iq_i 4)] [] g l (fun r g6 l7 => ∃ z8, r = some (iq_i z8) ∧ ((z8 = 0 ∨ z8 = 1) ∧ Q (some (iq_i z8)) g6 l7)))))))) ∧
    (¬ (g 77 11) = (3 : Int) → (iq_P N xs 100 0 [some (iq_r 77), some (iq_i 2)] [] g l (fun r g9 l10 => ∃ z11, r = some (iq_i z11) ∧ ((z11 = 0 ∨ z11 = 1) ∧ Q (some (iq_i z11)) g9 l10))))) :
    iq_P N xs 102 0 [some (iq_r 77), some (iq_i a0), some (iq_i a1), some (iq_i a2)] [] g l Q := iq_w_ok (cuts := []) 22 0 _ _ _ _ H

-- ScaleForgeModel.sounding()Z at 0
set_option maxRecDepth 20000 in
theorem B103_77 {N : Nat} {xs : Nat → Int32} {Q : iq_T} (g : iq_I) (l : iq_J) (H : iq_P N xs 103 4 [some (iq_r 77), some (iq_i 2292)] [] g l Q) :
    iq_P N xs 103 0 [some (iq_r 77), none] [] g l Q := iq_w_ok (cuts := [4, 87]) 2 0 _ _ _ _ H

-- ScaleForgeModel.sounding()Z at 4
set_option maxRecDepth 20000 in
theorem B103_p4_77 {N : Nat} {xs : Nat → Int32} {Q : iq_T} (v1 : Int) (g : iq_I) (l : iq_J) (H : (-2147483648 ≤ (g 77 11) ∧ (g 77 11) ≤ 2147483647) ∧
    (¬ (g 77 11) = (3 : Int) → (Q (some (iq_i 1)) g l)) ∧
    ((g 77 11) = (3 : Int) → ((-2147483648 ≤ (g 77 14) ∧ (g 77 14) ≤ 2147483647 ∧ -2147483648 ≤ (g 78 1841) ∧ (g 78 1841) ≤ 2147483647) ∧
      ((g 78 1841) ≤ (g 77 14) → (iq_P N xs 102 0 [some (iq_r 77), some (iq_i v1), some (iq_i 0), some (iq_i ((g 78 1841) - 1))] [] g l (fun r g1 l2 => ∃ z3, r = some (iq_i z3) ∧ ((-2147483648 ≤ z3 ∧ z3 ≤ 2147483647) ∧
          (¬ z3 = (0 : Int) → ((0 ≤ v1 ∧ v1 < 2392) ∧ ((0 ≤ (1860 + (g1 78 v1)) ∧ (1860 + (g1 78 v1)) < 2392) ∧ (iq_P N xs 103 87 [some (iq_r 77), some (iq_i v1)] [] (iq_uz g1 78 (1860 + (g1 78 v1)) 1) l2 Q)))) ∧
          (z3 = (0 : Int) → (Q (some (iq_i 0)) g1 l2)))))) ∧
      ((g 77 14) < (g 78 1841) → ((0 ≤ (1860 + (g 77 14)) ∧ (1860 + (g 77 14)) < 2392) ∧ ((-2147483648 ≤ (g 78 (1860 + (g 77 14))) ∧ (g 78 (1860 + (g 77 14))) ≤ 2147483647) ∧
        (¬ (g 78 (1860 + (g 77 14))) = (1 : Int) → (iq_P N xs 102 0 [some (iq_r 77), some (iq_i v1), some (iq_i 0), some (iq_i ((g 78 1841) - 1))] [] g l (fun r g4 l5 => ∃ z6, r = some (iq_i z6) ∧ ((-2147483648 ≤ z6 ∧ z6 ≤ 2147483647) ∧
            (¬ z6 = (0 : Int) → ((0 ≤ v1 ∧ v1 < 2392) ∧ ((0 ≤ (1860 + (g4 78 v1)) ∧ (1860 + (g4 78 v1)) < 2392) ∧ (iq_P N xs 103 87 [some (iq_r 77), some (iq_i v1)] [] (iq_uz g4 78 (1860 + (g4 78 v1)) 1) l5 Q)))) ∧
            (z6 = (0 : Int) → (Q (some (iq_i 0)) g4 l5)))))) ∧
        ((g 78 (1860 + (g 77 14))) = (1 : Int) → (iq_P N xs 100 0 [some (iq_r 77), some (iq_i 5)] [] g l (fun r g7 l8 => ∃ z9, r = some (iq_i z9) ∧ ((z9 = 0 ∨ z9 = 1) ∧ Q (some (iq_i z9)) g7 l8)))))))))) :
    iq_P N xs 103 4 [some (iq_r 77), some (iq_i v1)] [] g l Q := iq_w_ok (cuts := [4, 87]) 41 4 _ _ _ _ H

-- ScaleForgeModel.sounding()Z at 87
set_option maxRecDepth 20000 in
theorem B103_p87_77 {N : Nat} {xs : Nat → Int32} {Q : iq_T} (v1 : Int) (g : iq_I) (l : iq_J) (H : iq_P N xs 103 4 [some (iq_r 77), some (iq_i v1)] [] g l Q) :
    iq_P N xs 103 87 [some (iq_r 77), some (iq_i v1)] [] g l Q := iq_w_ok (cuts := [4, 87]) 1 87 _ _ _ _ H

-- ScaleForgeModel.isSign(I)Z at 0
set_option maxRecDepth 20000 in
theorem B104_77 {N : Nat} {xs : Nat → Int32} {Q : iq_T} (a0 : Int) (g : iq_I) (l : iq_J) (H : (-2147483648 ≤ (g 77 11) ∧ (g 77 11) ≤ 2147483647) ∧
    (¬ (g 77 11) = (4 : Int) → (Q (some (iq_i 0)) g l)) ∧
    ((g 77 11) = (4 : Int) → ((-2147483648 ≤ (g 77 14) ∧ (g 77 14) ≤ 2147483647 ∧ -2147483648 ≤ a0 ∧ a0 ≤ 2147483647) ∧
      (¬ (g 77 14) = a0 → (Q (some (iq_i 0)) g l)) ∧
      ((g 77 14) = a0 → (Q (some (iq_i 1)) g l))))) :
    iq_P N xs 104 0 [some (iq_r 77), some (iq_i a0)] [] g l Q := iq_w_ok (cuts := []) 11 0 _ _ _ _ H

-- ScaleForgeModel.wantSign(I)Z at 0
set_option maxRecDepth 20000 in
theorem B105_77 {N : Nat} {xs : Nat → Int32} {Q : iq_T} (a0 : Int) (g : iq_I) (l : iq_J) (H : iq_P N xs 104 0 [some (iq_r 77), some (iq_i a0)] [] g l (fun r g1 l2 => ∃ z3, r = some (iq_i z3) ∧ ((-2147483648 ≤ z3 ∧ z3 ≤ 2147483647) ∧
      (¬ z3 = (0 : Int) → (iq_P N xs 96 0 [some (iq_r 77), none] [] g1 l2 (fun r g4 l5 => r = none ∧ (Q (some (iq_i 1)) g4 l5)))) ∧
      (z3 = (0 : Int) → (iq_P N xs 100 0 [some (iq_r 77), some (iq_i 2)] [] g1 l2 (fun r g6 l7 => ∃ z8, r = some (iq_i z8) ∧ ((z8 = 0 ∨ z8 = 1) ∧ Q (some (iq_i z8)) g6 l7))))))) :
    iq_P N xs 105 0 [some (iq_r 77), some (iq_i a0)] [] g l Q := iq_w_ok (cuts := []) 8 0 _ _ _ _ H

-- ScaleForgeModel.leastOf(I)I at 0
set_option maxRecDepth 20000 in
theorem B106 {N : Nat} {xs : Nat → Int32} {Q : iq_T} (a0 : Int) (g : iq_I) (l : iq_J) (H : (-2147483648 ≤ a0 ∧ a0 ≤ 2147483647) ∧
    (¬ a0 = (1 : Int) → ((-2147483648 ≤ a0 ∧ a0 ≤ 2147483647) ∧
      (a0 = (3 : Int) → (Q (some (iq_i 1)) g l)) ∧
      (¬ a0 = (3 : Int) → ((-2147483648 ≤ a0 ∧ a0 ≤ 2147483647) ∧
        (¬ a0 = (6 : Int) → (Q (some (iq_i 0)) g l)) ∧
        (a0 = (6 : Int) → (Q (some (iq_i 1)) g l)))))) ∧
    (a0 = (1 : Int) → (Q (some (iq_i 2)) g l))) :
    iq_P N xs 106 0 [some (iq_i a0)] [] g l Q := iq_w_ok (cuts := []) 12 0 _ _ _ _ H

-- ScaleForgeModel.mostOf(II)I at 0
set_option maxRecDepth 20000 in
theorem B107 {N : Nat} {xs : Nat → Int32} {Q : iq_T} (a0 : Int) (a1 : Int) (g : iq_I) (l : iq_J) (H : (-2147483648 ≤ a0 ∧ a0 ≤ 2147483647 ∧ (6 : Int) - 0 + 1 = 7) ∧ (
    (a0 = 0 → (Q (some (iq_i 16)) g l)) ∧
    (a0 = 1 → (Q (some (iq_i 60)) g l)) ∧
    (a0 = 2 → (Q (some (iq_i (a1 - 1))) g l)) ∧
    (a0 = 3 → (Q (some (iq_i 24)) g l)) ∧
    (a0 = 4 → (Q (some (iq_i 23)) g l)) ∧
    (a0 = 5 → (Q (some (iq_i (a1 - 1))) g l)) ∧
    (a0 = 6 → (Q (some (iq_i 7)) g l)) ∧ True) ∧
    ((a0 < 0 ∨ 6 < a0) → (Q (some (iq_i (a1 - 1))) g l))) :
    iq_P N xs 107 0 [some (iq_i a0), some (iq_i a1)] [] g l Q := iq_w_ok (cuts := []) 6 0 _ _ _ _ H

-- ScaleForgeModel.scalePart()Z at 0
set_option maxRecDepth 20000 in
theorem B108_77 {N : Nat} {xs : Nat → Int32} {Q : iq_T} (g : iq_I) (l : iq_J) (H : iq_P N xs 99 0 [some (iq_r 77), some (iq_r 1000033), none, none, none, none, none] [] g l (fun r g1 l2 => ∃ z3, r = some (iq_i z3) ∧ ((-2147483648 ≤ z3 ∧ z3 ≤ 2147483647) ∧
      (z3 < (0 : Int) → (iq_P N xs 100 0 [some (iq_r 77), some (iq_i 2)] [] g1 l2 (fun r g4 l5 => ∃ z6, r = some (iq_i z6) ∧ ((z6 = 0 ∨ z6 = 1) ∧ Q (some (iq_i z6)) g4 l5)))) ∧
      ((0 : Int) ≤ z3 → ((-2147483648 ≤ z3 ∧ z3 ≤ 2147483647) ∧
        (z3 ≤ (9 : Int) → ((-2147483648 ≤ z3 ∧ z3 ≤ 2147483647) ∧
          (z3 = (9 : Int) → ((-2147483648 ≤ z3 ∧ z3 ≤ 2147483647) ∧
            (¬ z3 = (1 : Int) → (iq_P N xs 108 77 [some (iq_r 77), some (iq_i z3), some (iq_i 932)] [] (iq_uz g1 77 18 (iq_or (g1 77 18) (iq_shl 1 z3))) l2 Q)) ∧
            (z3 = (1 : Int) → ((-2147483648 ≤ (iq_and (g1 77 18) 932) ∧ (iq_and (g1 77 18) 932) ≤ 2147483647) ∧
              ((iq_and (g1 77 18) 932) = (0 : Int) → (iq_P N xs 108 77 [some (iq_r 77), some (iq_i z3), some (iq_i 932)] [] (iq_uz g1 77 18 (iq_or (g1 77 18) (iq_shl 1 z3))) l2 Q)) ∧
              (¬ (iq_and (g1 77 18) 932) = (0 : Int) → (iq_P N xs 100 0 [some (iq_r 77), some (iq_i 5)] [] g1 l2 (fun r g7 l8 => ∃ z9, r = some (iq_i z9) ∧ ((z9 = 0 ∨ z9 = 1) ∧ Q (some (iq_i z9)) g7 l8)))))))) ∧
          (¬ z3 = (9 : Int) → (iq_P N xs 101 0 [some (iq_r 77), some (iq_i (g1 77 18)), some (iq_i z3)] [] g1 l2 (fun r g10 l11 => ∃ z12, r = some (iq_i z12) ∧ ((-2147483648 ≤ z12 ∧ z12 ≤ 2147483647) ∧
              (¬ z12 = (0 : Int) → (iq_P N xs 100 0 [some (iq_r 77), some (iq_i 5)] [] g10 l11 (fun r g13 l14 => ∃ z15, r = some (iq_i z15) ∧ ((z15 = 0 ∨ z15 = 1) ∧ Q (some (iq_i z15)) g13 l14)))) ∧
              (z12 = (0 : Int) → ((-2147483648 ≤ z3 ∧ z3 ≤ 2147483647) ∧
                (¬ z3 = (1 : Int) → (iq_P N xs 108 77 [some (iq_r 77), some (iq_i z3), some (iq_i 932)] [] (iq_uz g10 77 18 (iq_or (g10 77 18) (iq_shl 1 z3))) l11 Q)) ∧
                (z3 = (1 : Int) → ((-2147483648 ≤ (iq_and (g10 77 18) 932) ∧ (iq_and (g10 77 18) 932) ≤ 2147483647) ∧
                  ((iq_and (g10 77 18) 932) = (0 : Int) → (iq_P N xs 108 77 [some (iq_r 77), some (iq_i z3), some (iq_i 932)] [] (iq_uz g10 77 18 (iq_or (g10 77 18) (iq_shl 1 z3))) l11 Q)) ∧
                  (¬ (iq_and (g10 77 18) 932) = (0 : Int) → (iq_P N xs 100 0 [some (iq_r 77), some (iq_i 5)] [] g10 l11 (fun r g16 l17 => ∃ z18, r = some (iq_i z18) ∧ ((z18 = 0 ∨ z18 = 1) ∧ Q (some (iq_i z18)) g16 l17)))))))))))))) ∧
        ((9 : Int) < z3 → (iq_P N xs 100 0 [some (iq_r 77), some (iq_i 2)] [] g1 l2 (fun r g19 l20 => ∃ z21, r = some (iq_i z21) ∧ ((z21 = 0 ∨ z21 = 1) ∧ Q (some (iq_i z21)) g19 l20))))))))) :
    iq_P N xs 108 0 [some (iq_r 77), none, none] [] g l Q := iq_w_ok (cuts := [77, 87, 103, 107, 109, 137, 150]) 36 0 _ _ _ _ H

-- ScaleForgeModel.scalePart()Z at 77
set_option maxRecDepth 20000 in
theorem B108_p77_77 {N : Nat} {xs : Nat → Int32} {Q : iq_T} (v1 : Int) (v2 : Int) (g : iq_I) (l : iq_J) (H : iq_P N xs 96 0 [some (iq_r 77), none] [] g l (fun r g1 l2 => r = none ∧ ((-2147483648 ≤ v1 ∧ v1 ≤ 2147483647) ∧
      (¬ v1 = (9 : Int) → (iq_P N xs 108 109 [some (iq_r 77), some (iq_i v1), some (iq_i v2)] [] g1 l2 Q)) ∧
      (v1 = (9 : Int) → (iq_P N xs 108 87 [some (iq_r 77), some (iq_i v1), some (iq_i v2)] [] g1 l2 Q))))) :
    iq_P N xs 108 77 [some (iq_r 77), some (iq_i v1), some (iq_i v2)] [] g l Q := iq_w_ok (cuts := [77, 87, 103, 107, 109, 137, 150]) 5 77 _ _ _ _ H

-- ScaleForgeModel.scalePart()Z at 87
set_option maxRecDepth 20000 in
theorem B108_p87_77 {N : Nat} {xs : Nat → Int32} {Q : iq_T} (v1 : Int) (v2 : Int) (g : iq_I) (l : iq_J) (H : iq_P N xs 103 0 [some (iq_r 77), none] [] g l (fun r g1 l2 => ∃ z3, r = some (iq_i z3) ∧ ((-2147483648 ≤ z3 ∧ z3 ≤ 2147483647) ∧
      (z3 = (0 : Int) → (iq_P N xs 108 107 [some (iq_r 77), some (iq_i v1), some (iq_i v2)] [] g1 l2 Q)) ∧
      (¬ z3 = (0 : Int) → (iq_P N xs 105 0 [some (iq_r 77), some (iq_i 59)] [] g1 l2 (fun r g4 l5 => ∃ z6, r = some (iq_i z6) ∧ ((-2147483648 ≤ z6 ∧ z6 ≤ 2147483647) ∧
          (z6 = (0 : Int) → (iq_P N xs 108 107 [some (iq_r 77), some (iq_i v1), some (iq_i v2)] [] g4 l5 Q)) ∧
          (¬ z6 = (0 : Int) → (iq_P N xs 108 103 [some (iq_r 77), some (iq_i v1), some (iq_i v2)] [] g4 l5 Q))))))))) :
    iq_P N xs 108 87 [some (iq_r 77), some (iq_i v1), some (iq_i v2)] [] g l Q := iq_w_ok (cuts := [77, 87, 103, 107, 109, 137, 150]) 7 87 _ _ _ _ H

-- ScaleForgeModel.scalePart()Z at 103
set_option maxRecDepth 20000 in
theorem B108_p103_77 {N : Nat} {xs : Nat → Int32} {Q : iq_T} (v1 : Int) (v2 : Int) (g : iq_I) (l : iq_J) (H : Q (some (iq_i 1)) g l) :
    iq_P N xs 108 103 [some (iq_r 77), some (iq_i v1), some (iq_i v2)] [] g l Q := iq_w_ok (cuts := [77, 87, 103, 107, 109, 137, 150]) 3 103 _ _ _ _ H

-- ScaleForgeModel.scalePart()Z at 107
set_option maxRecDepth 20000 in
theorem B108_p107_77 {N : Nat} {xs : Nat → Int32} {Q : iq_T} (v1 : Int) (v2 : Int) (g : iq_I) (l : iq_J) (H : Q (some (iq_i 0)) g l) :
    iq_P N xs 108 107 [some (iq_r 77), some (iq_i v1), some (iq_i v2)] [] g l Q := iq_w_ok (cuts := [77, 87, 103, 107, 109, 137, 150]) 2 107 _ _ _ _ H

-- ScaleForgeModel.scalePart()Z at 109
set_option maxRecDepth 20000 in
theorem B108_p109_77 {N : Nat} {xs : Nat → Int32} {Q : iq_T} (v1 : Int) (v2 : Int) (g : iq_I) (l : iq_J) (H : iq_P N xs 106 0 [some (iq_i v1)] [] g l (fun r g1 l2 => ∃ z3, r = some (iq_i z3) ∧ (iq_P N xs 107 0 [some (iq_i v1), some (iq_i (g1 78 1841))] [] g1 l2 (fun r g4 l5 => ∃ z6, r = some (iq_i z6) ∧ (iq_P N xs 102 0 [some (iq_r 77), some (iq_i (1840 + v1)), some (iq_i z3), some (iq_i z6)] [] g4 l5 (fun r g7 l8 => ∃ z9, r = some (iq_i z9) ∧ ((-2147483648 ≤ z9 ∧ z9 ≤ 2147483647) ∧
          (z9 = (0 : Int) → (iq_P N xs 108 150 [some (iq_r 77), some (iq_i v1), some (iq_i v2)] [] g7 l8 Q)) ∧
          (¬ z9 = (0 : Int) → (iq_P N xs 108 137 [some (iq_r 77), some (iq_i v1), some (iq_i v2)] [] g7 l8 Q))))))))) :
    iq_P N xs 108 109 [some (iq_r 77), some (iq_i v1), some (iq_i v2)] [] g l Q := iq_w_ok (cuts := [77, 87, 103, 107, 109, 137, 150]) 14 109 _ _ _ _ H

-- ScaleForgeModel.scalePart()Z at 137
set_option maxRecDepth 20000 in
theorem B108_p137_77 {N : Nat} {xs : Nat → Int32} {Q : iq_T} (v1 : Int) (v2 : Int) (g : iq_I) (l : iq_J) (H : iq_P N xs 105 0 [some (iq_r 77), some (iq_i 59)] [] g l (fun r g1 l2 => ∃ z3, r = some (iq_i z3) ∧ ((-2147483648 ≤ z3 ∧ z3 ≤ 2147483647) ∧
      (z3 = (0 : Int) → (iq_P N xs 108 150 [some (iq_r 77), some (iq_i v1), some (iq_i v2)] [] g1 l2 Q)) ∧
      (¬ z3 = (0 : Int) → (Q (some (iq_i 1)) g1 l2))))) :
    iq_P N xs 108 137 [some (iq_r 77), some (iq_i v1), some (iq_i v2)] [] g l Q := iq_w_ok (cuts := [77, 87, 103, 107, 109, 137, 150]) 7 137 _ _ _ _ H

-- ScaleForgeModel.scalePart()Z at 150
set_option maxRecDepth 20000 in
theorem B108_p150_77 {N : Nat} {xs : Nat → Int32} {Q : iq_T} (v1 : Int) (v2 : Int) (g : iq_I) (l : iq_J) (H : Q (some (iq_i 0)) g l) :
    iq_P N xs 108 150 [some (iq_r 77), some (iq_i v1), some (iq_i v2)] [] g l Q := iq_w_ok (cuts := [77, 87, 103, 107, 109, 137, 150]) 2 150 _ _ _ _ H

-- ScaleForgeModel.isFolded(I)Z at 0
set_option maxRecDepth 20000 in
theorem B109 {N : Nat} {xs : Nat → Int32} {Q : iq_T} (a0 : Int) (g : iq_I) (l : iq_J) (H : (-2147483648 ≤ a0 ∧ a0 ≤ 2147483647) ∧
    (a0 = (2 : Int) → (Q (some (iq_i 1)) g l)) ∧
    (¬ a0 = (2 : Int) → ((-2147483648 ≤ a0 ∧ a0 ≤ 2147483647) ∧
      (a0 = (5 : Int) → (Q (some (iq_i 1)) g l)) ∧
      (¬ a0 = (5 : Int) → ((-2147483648 ≤ a0 ∧ a0 ≤ 2147483647) ∧
        (a0 = (7 : Int) → (Q (some (iq_i 1)) g l)) ∧
        (¬ a0 = (7 : Int) → ((-2147483648 ≤ a0 ∧ a0 ≤ 2147483647) ∧
          (¬ a0 = (8 : Int) → (Q (some (iq_i 0)) g l)) ∧
          (a0 = (8 : Int) → (Q (some (iq_i 1)) g l))))))))) :
    iq_P N xs 109 0 [some (iq_i a0)] [] g l Q := iq_w_ok (cuts := []) 15 0 _ _ _ _ H

-- ScaleForgeModel.folds(I)V at 0
set_option maxRecDepth 20000 in
theorem B110_77 {N : Nat} {xs : Nat → Int32} {Q : iq_T} (a0 : Int) (g : iq_I) (l : iq_J) (H : iq_P N xs 110 2 [some (iq_r 77), some (iq_i a0), some (iq_i 2)] [] g l Q) :
    iq_P N xs 110 0 [some (iq_r 77), some (iq_i a0), none] [] g l Q := iq_w_ok (cuts := [2]) 2 0 _ _ _ _ H

-- ScaleForgeModel.folds(I)V at 2
set_option maxRecDepth 20000 in
theorem B110_p2_77 {N : Nat} {xs : Nat → Int32} {Q : iq_T} (v1 : Int) (v2 : Int) (g : iq_I) (l : iq_J) (H : (-2147483648 ≤ v2 ∧ v2 ≤ 2147483647) ∧
    ((8 : Int) < v2 → (Q (none) g l)) ∧
    (v2 ≤ (8 : Int) → (iq_P N xs 109 0 [some (iq_i v2)] [] g l (fun r g1 l2 => ∃ z3, r = some (iq_i z3) ∧ ((-2147483648 ≤ z3 ∧ z3 ≤ 2147483647) ∧
        (z3 = (0 : Int) → (iq_P N xs 110 2 [some (iq_r 77), some (iq_i v1), some (iq_i (v2 + 1))] [] g1 l2 Q)) ∧
        (¬ z3 = (0 : Int) → ((0 ≤ (v1 + v2) ∧ (v1 + v2) < 2392) ∧ ((0 ≤ (v1 + 1) ∧ (v1 + 1) < 2392) ∧ ((-2147483648 < (g1 78 (v1 + v2)) ∧ (g1 78 (v1 + v2)) ≤ 2147483647 ∧ -2147483648 ≤ (g1 78 (v1 + 1)) ∧ (g1 78 (v1 + 1)) ≤ 2147483647 ∧ ¬ (g1 78 (v1 + 1)) = 0) ∧ ((0 ≤ (v1 + v2) ∧ (v1 + v2) < 2392) ∧ (iq_P N xs 110 2 [some (iq_r 77), some (iq_i v1), some (iq_i (v2 + 1))] [] (iq_uz g1 78 (v1 + v2) (Int.tmod (g1 78 (v1 + v2)) (g1 78 (v1 + 1)))) l2 Q))))))))))) :
    iq_P N xs 110 2 [some (iq_r 77), some (iq_i v1), some (iq_i v2)] [] g l Q := iq_w_ok (cuts := [2]) 23 2 _ _ _ _ H

-- ScaleForgeModel.taken(I)I at 0
set_option maxRecDepth 20000 in
theorem B116_77 {N : Nat} {xs : Nat → Int32} {Q : iq_T} (a0 : Int) (g : iq_I) (l : iq_J) (H : (-2147483648 ≤ (g 77 17) ∧ (g 77 17) ≤ 2147483647) ∧
    ((g 77 17) ≤ (0 : Int) → (iq_P N xs 115 0 [some (iq_r 77), some (iq_i a0)] [] (iq_uz g 77 15 (g 77 17)) l (fun r g1 l2 => ∃ z3, r = some (iq_i z3) ∧ (Q (some (iq_i z3)) g1 l2)))) ∧
    ((0 : Int) < (g 77 17) → (iq_P N xs 98 0 [some (iq_r 77), some (iq_i 9)] [] (iq_uz g 77 15 (g 77 17)) l (fun r g4 l5 => ∃ z6, r = some (iq_i z6) ∧ (Q (some (iq_i z6)) g4 l5))))) :
    iq_P N xs 116 0 [some (iq_r 77), some (iq_i a0)] [] g l Q := iq_w_ok (cuts := []) 12 0 _ _ _ _ H
