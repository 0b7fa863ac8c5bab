/-! What must hold that a stretch of a method ends well: methods 117 to 129. -/
-- ScaleForgeModel.scale(I)I at 0
set_option maxRecDepth 20000 in
theorem B117_77 {N : Nat} {xs : Nat → Int32} {Q : iq_T} (a0 : Int) (g : iq_I) (l : iq_J) (H : iq_P N xs 97 0 [some (iq_r 77), some (iq_i a0), some (iq_i 900), none] [] g l (fun r g1 l2 => ∃ z3, r = some (iq_i z3) ∧ ((-2147483648 ≤ z3 ∧ z3 ≤ 2147483647) ∧
      (¬ z3 = (0 : Int) → (iq_P N xs 19 0 [some (iq_r 77), some (iq_i 1840), none] [] g1 l2 (fun r g4 l5 => r = none ∧ (iq_P N xs 117 31 [some (iq_r 77), some (iq_i a0), some (iq_i 1), none] [] (iq_uz g4 77 18 0) l5 Q)))) ∧
      (z3 = (0 : Int) → (iq_P N xs 98 0 [some (iq_r 77), some (iq_i 1)] [] g1 l2 (fun r g6 l7 => ∃ z8, r = some (iq_i z8) ∧ (Q (some (iq_i z8)) g6 l7))))))) :
    iq_P N xs 117 0 [some (iq_r 77), some (iq_i a0), none, none] [] g l Q := iq_w_ok (cuts := [31, 66]) 13 0 _ _ _ _ H

-- ScaleForgeModel.scale(I)I at 31
set_option maxRecDepth 20000 in
theorem B117_p31_77 {N : Nat} {xs : Nat → Int32} {Q : iq_T} (v1 : Int) (v2 : Int) (g : iq_I) (l : iq_J) (H : (-2147483648 ≤ v2 ∧ v2 ≤ 2147483647) ∧
    (v2 = (0 : Int) → (iq_P N xs 110 0 [some (iq_r 77), some (iq_i 1840), none] [] g l (fun r g1 l2 => r = none ∧ ((-2147483648 ≤ (g1 77 17) ∧ (g1 77 17) ≤ 2147483647) ∧
        (¬ (g1 77 17) = (0 : Int) → (iq_P N xs 114 0 [some (iq_r 77)] [] g1 l2 (fun r g3 l4 => r = none ∧ (iq_P N xs 116 0 [some (iq_r 77), some (iq_i (g3 77 26))] [] g3 l4 (fun r g5 l6 => ∃ z7, r = some (iq_i z7) ∧ (Q (some (iq_i z7)) g5 l6)))))) ∧
        ((g1 77 17) = (0 : Int) → (iq_P N xs 117 66 [some (iq_r 77), some (iq_i v1), some (iq_i v2), some (iq_i 0)] [] g1 l2 Q)))))) ∧
    (¬ v2 = (0 : Int) → ((-2147483648 ≤ (g 77 11) ∧ (g 77 11) ≤ 2147483647) ∧
      ((g 77 11) = (0 : Int) → (iq_P N xs 110 0 [some (iq_r 77), some (iq_i 1840), none] [] g l (fun r g8 l9 => r = none ∧ ((-2147483648 ≤ (g8 77 17) ∧ (g8 77 17) ≤ 2147483647) ∧
          (¬ (g8 77 17) = (0 : Int) → (iq_P N xs 114 0 [some (iq_r 77)] [] g8 l9 (fun r g10 l11 => r = none ∧ (iq_P N xs 116 0 [some (iq_r 77), some (iq_i (g10 77 26))] [] g10 l11 (fun r g12 l13 => ∃ z14, r = some (iq_i z14) ∧ (Q (some (iq_i z14)) g12 l13)))))) ∧
          ((g8 77 17) = (0 : Int) → (iq_P N xs 117 66 [some (iq_r 77), some (iq_i v1), some (iq_i v2), some (iq_i 0)] [] g8 l9 Q)))))) ∧
      (¬ (g 77 11) = (0 : Int) → (iq_P N xs 108 0 [some (iq_r 77), none, none] [] g l (fun r g15 l16 => ∃ z17, r = some (iq_i z17) ∧ (iq_P N xs 117 31 [some (iq_r 77), some (iq_i v1), some (iq_i z17), none] [] g15 l16 Q))))))) :
    iq_P N xs 117 31 [some (iq_r 77), some (iq_i v1), some (iq_i v2), none] [] g l Q := iq_w_ok (cuts := [31, 66]) 18 31 _ _ _ _ H

-- ScaleForgeModel.scale(I)I at 66
set_option maxRecDepth 20000 in
theorem B117_p66_77 {N : Nat} {xs : Nat → Int32} {Q : iq_T} (v1 : Int) (v2 : Int) (v3 : Int) (g : iq_I) (l : iq_J) (H : (-2147483648 ≤ v3 ∧ v3 ≤ 2147483647) ∧
    ((460 : Int) ≤ v3 → (iq_P N xs 114 0 [some (iq_r 77)] [] g l (fun r g1 l2 => r = none ∧ (iq_P N xs 116 0 [some (iq_r 77), some (iq_i (g1 77 26))] [] g1 l2 (fun r g3 l4 => ∃ z5, r = some (iq_i z5) ∧ (Q (some (iq_i z5)) g3 l4)))))) ∧
    (v3 < (460 : Int) → ((0 ≤ (1840 + v3) ∧ (1840 + v3) < 2392) ∧ ((0 ≤ v3 ∧ v3 < 2392) ∧ (iq_P N xs 117 66 [some (iq_r 77), some (iq_i v1), some (iq_i v2), some (iq_i (v3 + 1))] [] (iq_uz g 78 v3 (g 78 (1840 + v3))) l Q))))) :
    iq_P N xs 117 66 [some (iq_r 77), some (iq_i v1), some (iq_i v2), some (iq_i v3)] [] g l Q := iq_w_ok (cuts := [31, 66]) 15 66 _ _ _ _ H

-- ScaleForge$Studies.hasStep(I)Z at 0
set_option maxRecDepth 20000 in
theorem B118_17 {N : Nat} {xs : Nat → Int32} {Q : iq_T} (a0 : Int) (g : iq_I) (l : iq_J) (H : (-2147483648 ≤ a0 ∧ a0 ≤ 2147483647) ∧
    (a0 < (0 : Int) → (Q (some (iq_i 0)) g l)) ∧
    ((0 : Int) ≤ a0 → ((-2147483648 ≤ a0 ∧ a0 ≤ 2147483647 ∧ -2147483648 ≤ (g 17 4) ∧ (g 17 4) ≤ 2147483647) ∧
      ((g 17 4) ≤ a0 → (Q (some (iq_i 0)) g l)) ∧
      (a0 < (g 17 4) → ((-2147483648 ≤ a0 ∧ a0 ≤ 2147483647) ∧
        ((30 : Int) ≤ a0 → (Q (some (iq_i 0)) g l)) ∧
        (a0 < (30 : Int) → (Q (some (iq_i 1)) g l))))))) :
    iq_P N xs 118 0 [some (iq_r 17), some (iq_i a0)] [] g l Q := iq_w_ok (cuts := []) 12 0 _ _ _ _ H

-- ScaleForge$Studies.hasStep(I)Z at 0
set_option maxRecDepth 20000 in
theorem B118_26 {N : Nat} {xs : Nat → Int32} {Q : iq_T} (a0 : Int) (g : iq_I) (l : iq_J) (H : (-2147483648 ≤ a0 ∧ a0 ≤ 2147483647) ∧
    (a0 < (0 : Int) → (Q (some (iq_i 0)) g l)) ∧
    ((0 : Int) ≤ a0 → ((-2147483648 ≤ a0 ∧ a0 ≤ 2147483647 ∧ -2147483648 ≤ (g 26 4) ∧ (g 26 4) ≤ 2147483647) ∧
      ((g 26 4) ≤ a0 → (Q (some (iq_i 0)) g l)) ∧
      (a0 < (g 26 4) → ((-2147483648 ≤ a0 ∧ a0 ≤ 2147483647) ∧
        ((30 : Int) ≤ a0 → (Q (some (iq_i 0)) g l)) ∧
        (a0 < (30 : Int) → (Q (some (iq_i 1)) g l))))))) :
    iq_P N xs 118 0 [some (iq_r 26), some (iq_i a0)] [] g l Q := iq_w_ok (cuts := []) 12 0 _ _ _ _ H

-- ScaleForge$StudyText.takeEnd()Z at 0
set_option maxRecDepth 20000 in
theorem B119_16 {N : Nat} {xs : Nat → Int32} {Q : iq_T} (g : iq_I) (l : iq_J) (H : (-2147483648 ≤ (g 16 3) ∧ (g 16 3) ≤ 2147483647) ∧
    ((g 16 3) < (1 : Int) → (iq_P N xs 63 0 [some (iq_r 10), some (iq_i 2)] [] g l (fun r g1 l2 => ∃ z3, r = some (iq_i z3) ∧ ((z3 = 0 ∨ z3 = 1) ∧ Q (some (iq_i z3)) g1 l2)))) ∧
    ((1 : Int) ≤ (g 16 3) → ((-2147483648 ≤ (g 16 3) ∧ (g 16 3) ≤ 2147483647) ∧
      ((g 16 3) ≤ (3 : Int) → ((0 ≤ ((g 16 3) - 1) ∧ ((g 16 3) - 1) < 3) ∧ (iq_P N xs 118 0 [some (iq_r 17), some (iq_i (g 22 ((g 16 3) - 1)))] [] (iq_uz g 16 3 ((g 16 3) - 1)) l (fun r g4 l5 => ∃ z6, r = some (iq_i z6) ∧ ((-2147483648 ≤ z6 ∧ z6 ≤ 2147483647) ∧
          (z6 = (0 : Int) → (iq_P N xs 84 0 [some (iq_r 10)] [] g4 l5 (fun r g7 l8 => ∃ z9, r = some (iq_i z9) ∧ ((z9 = 0 ∨ z9 = 1) ∧ Q (some (iq_i z9)) g7 l8)))) ∧
          (¬ z6 = (0 : Int) → ((0 ≤ (g 22 ((g 16 3) - 1)) ∧ (g 22 ((g 16 3) - 1)) < 30) ∧ (iq_P N xs 84 0 [some (iq_r 10)] [] (iq_uz g4 21 (g 22 ((g 16 3) - 1)) (g4 17 4)) l5 (fun r g10 l11 => ∃ z12, r = some (iq_i z12) ∧ ((z12 = 0 ∨ z12 = 1) ∧ Q (some (iq_i z12)) g10 l11)))))))))) ∧
      ((3 : Int) < (g 16 3) → (iq_P N xs 63 0 [some (iq_r 10), some (iq_i 2)] [] g l (fun r g13 l14 => ∃ z15, r = some (iq_i z15) ∧ ((z15 = 0 ∨ z15 = 1) ∧ Q (some (iq_i z15)) g13 l14))))))) :
    iq_P N xs 119 0 [some (iq_r 16), none] [] g l Q := iq_w_ok (cuts := []) 37 0 _ _ _ _ H

-- ScaleForge$StudyText.kindNow()I at 0
set_option maxRecDepth 20000 in
theorem B120_16 {N : Nat} {xs : Nat → Int32} {Q : iq_T} (g : iq_I) (l : iq_J) (H : iq_P N xs 72 0 [some (iq_r 10), some (iq_r 1000021), none] [] g l (fun r g1 l2 => ∃ z3, r = some (iq_i z3) ∧ ((-2147483648 ≤ z3 ∧ z3 ≤ 2147483647) ∧
      (z3 = (0 : Int) → (iq_P N xs 72 0 [some (iq_r 10), some (iq_r 1000022), none] [] g1 l2 (fun r g4 l5 => ∃ z6, r = some (iq_i z6) ∧ ((-2147483648 ≤ z6 ∧ z6 ≤ 2147483647) ∧
          (z6 = (0 : Int) → (iq_P N xs 72 0 [some (iq_r 10), some (iq_r 1000023), none] [] g4 l5 (fun r g7 l8 => ∃ z9, r = some (iq_i z9) ∧ ((-2147483648 ≤ z9 ∧ z9 ≤ 2147483647) ∧
              (z9 = (0 : Int) → (iq_P N xs 72 0 [some (iq_r 10), some (iq_r 1000024), none] [] g7 l8 (fun r g10 l11 => ∃ z12, r = some (iq_i z12) ∧ ((-2147483648 ≤ z12 ∧ z12 ≤ 2147483647) ∧
                  (z12 = (0 : Int) → (iq_P N xs 72 0 [some (iq_r 10), some (iq_r 1000025), none] [] g10 l11 (fun r g13 l14 => ∃ z15, r = some (iq_i z15) ∧ ((-2147483648 ≤ z15 ∧ z15 ≤ 2147483647) ∧
                      (z15 = (0 : Int) → (iq_P N xs 72 0 [some (iq_r 10), some (iq_r 1000026), none] [] g13 l14 (fun r g16 l17 => ∃ z18, r = some (iq_i z18) ∧ ((-2147483648 ≤ z18 ∧ z18 ≤ 2147483647) ∧
                          (z18 = (0 : Int) → (iq_P N xs 72 0 [some (iq_r 10), some (iq_r 1000027), none] [] g16 l17 (fun r g19 l20 => ∃ z21, r = some (iq_i z21) ∧ ((-2147483648 ≤ z21 ∧ z21 ≤ 2147483647) ∧
                              (z21 = (0 : Int) → (iq_P N xs 120 99 [some (iq_r 16)] [] g19 l20 Q)) ∧
                              (¬ z21 = (0 : Int) → (iq_P N xs 120 96 [some (iq_r 16)] [] g19 l20 Q)))))) ∧
                          (¬ z18 = (0 : Int) → (Q (some (iq_i 5)) g16 l17)))))) ∧
                      (¬ z15 = (0 : Int) → (Q (some (iq_i 4)) g13 l14)))))) ∧
                  (¬ z12 = (0 : Int) → (Q (some (iq_i 3)) g10 l11)))))) ∧
              (¬ z9 = (0 : Int) → (Q (some (iq_i 2)) g7 l8)))))) ∧
          (¬ z6 = (0 : Int) → (Q (some (iq_i 1)) g4 l5)))))) ∧
      (¬ z3 = (0 : Int) → (Q (some (iq_i 0)) g1 l2))))) :
    iq_P N xs 120 0 [some (iq_r 16)] [] g l Q := iq_w_ok (cuts := [96, 99]) 35 0 _ _ _ _ H

-- ScaleForge$StudyText.kindNow()I at 96
set_option maxRecDepth 20000 in
theorem B120_p96_16 {N : Nat} {xs : Nat → Int32} {Q : iq_T} (g : iq_I) (l : iq_J) (H : Q (some (iq_i 6)) g l) :
    iq_P N xs 120 96 [some (iq_r 16)] [] g l Q := iq_w_ok (cuts := [96, 99]) 2 96 _ _ _ _ H

-- ScaleForge$StudyText.kindNow()I at 99
set_option maxRecDepth 20000 in
theorem B120_p99_16 {N : Nat} {xs : Nat → Int32} {Q : iq_T} (g : iq_I) (l : iq_J) (H : iq_P N xs 72 0 [some (iq_r 10), some (iq_r 1000028), none] [] g l (fun r g1 l2 => ∃ z3, r = some (iq_i z3) ∧ ((-2147483648 ≤ z3 ∧ z3 ≤ 2147483647) ∧
      (z3 = (0 : Int) → (iq_P N xs 72 0 [some (iq_r 10), some (iq_r 1000029), none] [] g1 l2 (fun r g4 l5 => ∃ z6, r = some (iq_i z6) ∧ ((-2147483648 ≤ z6 ∧ z6 ≤ 2147483647) ∧
          (z6 = (0 : Int) → (Q (some (iq_i (-1))) g4 l5)) ∧
          (¬ z6 = (0 : Int) → (Q (some (iq_i 8)) g4 l5)))))) ∧
      (¬ z3 = (0 : Int) → (Q (some (iq_i 7)) g1 l2))))) :
    iq_P N xs 120 99 [some (iq_r 16)] [] g l Q := iq_w_ok (cuts := [96, 99]) 13 99 _ _ _ _ H

-- ScaleForge$StudyText.comparesNow()I at 0
set_option maxRecDepth 20000 in
theorem B121_16 {N : Nat} {xs : Nat → Int32} {Q : iq_T} (g : iq_I) (l : iq_J) (H : iq_P N xs 76 0 [some (iq_r 10), some (iq_i 60)] [] g l (fun r g1 l2 => ∃ z3, r = some (iq_i z3) ∧ ((-2147483648 ≤ z3 ∧ z3 ≤ 2147483647) ∧
      (z3 = (0 : Int) → (iq_P N xs 76 0 [some (iq_r 10), some (iq_i 62)] [] g1 l2 (fun r g4 l5 => ∃ z6, r = some (iq_i z6) ∧ ((-2147483648 ≤ z6 ∧ z6 ≤ 2147483647) ∧
          (z6 = (0 : Int) → (iq_P N xs 76 0 [some (iq_r 10), some (iq_i 61)] [] g4 l5 (fun r g7 l8 => ∃ z9, r = some (iq_i z9) ∧ ((-2147483648 ≤ z9 ∧ z9 ≤ 2147483647) ∧
              (z9 = (0 : Int) → (Q (some (iq_i (-1))) g7 l8)) ∧
              (¬ z9 = (0 : Int) → (Q (some (iq_i 4)) g7 l8)))))) ∧
          (¬ z6 = (0 : Int) → (Q (some (iq_i 3)) g4 l5)))))) ∧
      (¬ z3 = (0 : Int) → (Q (some (iq_i 2)) g1 l2))))) :
    iq_P N xs 121 0 [some (iq_r 16)] [] g l Q := iq_w_ok (cuts := []) 18 0 _ _ _ _ H

-- ScaleForge$StudyText.toneTestNow()I at 0
set_option maxRecDepth 20000 in
theorem B122_16 {N : Nat} {xs : Nat → Int32} {Q : iq_T} (g : iq_I) (l : iq_J) (H : iq_P N xs 72 0 [some (iq_r 10), some (iq_r 1000031), none] [] g l (fun r g1 l2 => ∃ z3, r = some (iq_i z3) ∧ ((-2147483648 ≤ z3 ∧ z3 ≤ 2147483647) ∧
      (z3 = (0 : Int) → (iq_P N xs 72 0 [some (iq_r 10), some (iq_r 1000032), none] [] g1 l2 (fun r g4 l5 => ∃ z6, r = some (iq_i z6) ∧ ((-2147483648 ≤ z6 ∧ z6 ≤ 2147483647) ∧
          (z6 = (0 : Int) → (Q (some (iq_i (-1))) g4 l5)) ∧
          (¬ z6 = (0 : Int) → (Q (some (iq_i 1)) g4 l5)))))) ∧
      (¬ z3 = (0 : Int) → (Q (some (iq_i 0)) g1 l2))))) :
    iq_P N xs 122 0 [some (iq_r 16)] [] g l Q := iq_w_ok (cuts := []) 13 0 _ _ _ _ H

-- ScaleForge$StudyText.takeTest(I)Z at 0
set_option maxRecDepth 20000 in
theorem B123_16 {N : Nat} {xs : Nat → Int32} {Q : iq_T} (a0 : Int) (g : iq_I) (l : iq_J) (H : iq_P N xs 64 0 [some (iq_r 10), none] [] g l (fun r g1 l2 => ∃ z3, r = some (iq_i z3) ∧ ((-2147483648 ≤ z3 ∧ z3 ≤ 2147483647) ∧
      (¬ z3 = (0 : Int) → (iq_P N xs 72 0 [some (iq_r 10), some (iq_r 1000030), none] [] g1 l2 (fun r g4 l5 => ∃ z6, r = some (iq_i z6) ∧ ((-2147483648 ≤ z6 ∧ z6 ≤ 2147483647) ∧
          (z6 = (0 : Int) → (iq_P N xs 123 38 [some (iq_r 16), some (iq_i a0), some (iq_i z6)] [] g4 l5 Q)) ∧
          (¬ z6 = (0 : Int) → (iq_P N xs 64 0 [some (iq_r 10), none] [] g4 l5 (fun r g7 l8 => ∃ z9, r = some (iq_i z9) ∧ ((-2147483648 ≤ z9 ∧ z9 ≤ 2147483647) ∧
              (¬ z9 = (0 : Int) → (iq_P N xs 123 38 [some (iq_r 16), some (iq_i a0), some (iq_i z6)] [] g7 l8 Q)) ∧
              (z9 = (0 : Int) → (Q (some (iq_i 0)) g7 l8)))))))))) ∧
      (z3 = (0 : Int) → (Q (some (iq_i 0)) g1 l2))))) :
    iq_P N xs 123 0 [some (iq_r 16), some (iq_i a0), none] [] g l Q := iq_w_ok (cuts := [38, 86, 90]) 17 0 _ _ _ _ H

-- ScaleForge$StudyText.takeTest(I)Z at 38
set_option maxRecDepth 20000 in
theorem B123_p38_16 {N : Nat} {xs : Nat → Int32} {Q : iq_T} (v1 : Int) (v2 : Int) (g : iq_I) (l : iq_J) (H : (-2147483648 ≤ v2 ∧ v2 ≤ 2147483647) ∧
    (v2 = (0 : Int) → (iq_P N xs 122 0 [some (iq_r 16)] [] g l (fun r g1 l2 => ∃ z3, r = some (iq_i z3) ∧ ((0 ≤ v1 ∧ v1 < 30) ∧ ((0 ≤ v1 ∧ v1 < 30) ∧ ((-2147483648 ≤ ((iq_uz g1 19 v1 z3) 19 v1) ∧ ((iq_uz g1 19 v1 z3) 19 v1) ≤ 2147483647) ∧
        (¬ ((iq_uz g1 19 v1 z3) 19 v1) = (-1 : Int) → (iq_P N xs 123 86 [some (iq_r 16), some (iq_i v1), some (iq_i v2)] [] (iq_uz g1 19 v1 z3) l2 Q)) ∧
        (((iq_uz g1 19 v1 z3) 19 v1) = (-1 : Int) → (iq_P N xs 63 0 [some (iq_r 10), some (iq_i 2)] [] (iq_uz g1 19 v1 z3) l2 (fun r g4 l5 => ∃ z6, r = some (iq_i z6) ∧ ((-2147483648 ≤ z6 ∧ z6 ≤ 2147483647) ∧
            (z6 = (0 : Int) → (iq_P N xs 123 90 [some (iq_r 16), some (iq_i v1), some (iq_i v2)] [] g4 l5 Q)) ∧
            (¬ z6 = (0 : Int) → (iq_P N xs 123 86 [some (iq_r 16), some (iq_i v1), some (iq_i v2)] [] g4 l5 Q)))))))))))) ∧
    (¬ v2 = (0 : Int) → (iq_P N xs 121 0 [some (iq_r 16)] [] g l (fun r g7 l8 => ∃ z9, r = some (iq_i z9) ∧ ((0 ≤ v1 ∧ v1 < 30) ∧ ((0 ≤ v1 ∧ v1 < 30) ∧ ((-2147483648 ≤ ((iq_uz g7 19 v1 z9) 19 v1) ∧ ((iq_uz g7 19 v1 z9) 19 v1) ≤ 2147483647) ∧
        (¬ ((iq_uz g7 19 v1 z9) 19 v1) = (-1 : Int) → (iq_P N xs 123 86 [some (iq_r 16), some (iq_i v1), some (iq_i v2)] [] (iq_uz g7 19 v1 z9) l8 Q)) ∧
        (((iq_uz g7 19 v1 z9) 19 v1) = (-1 : Int) → (iq_P N xs 63 0 [some (iq_r 10), some (iq_i 2)] [] (iq_uz g7 19 v1 z9) l8 (fun r g10 l11 => ∃ z12, r = some (iq_i z12) ∧ ((-2147483648 ≤ z12 ∧ z12 ≤ 2147483647) ∧
            (z12 = (0 : Int) → (iq_P N xs 123 90 [some (iq_r 16), some (iq_i v1), some (iq_i v2)] [] g10 l11 Q)) ∧
            (¬ z12 = (0 : Int) → (iq_P N xs 123 86 [some (iq_r 16), some (iq_i v1), some (iq_i v2)] [] g10 l11 Q))))))))))))) :
    iq_P N xs 123 38 [some (iq_r 16), some (iq_i v1), some (iq_i v2)] [] g l Q := iq_w_ok (cuts := [38, 86, 90]) 22 38 _ _ _ _ H

-- ScaleForge$StudyText.takeTest(I)Z at 86
set_option maxRecDepth 20000 in
theorem B123_p86_16 {N : Nat} {xs : Nat → Int32} {Q : iq_T} (v1 : Int) (v2 : Int) (g : iq_I) (l : iq_J) (H : Q (some (iq_i 1)) g l) :
    iq_P N xs 123 86 [some (iq_r 16), some (iq_i v1), some (iq_i v2)] [] g l Q := iq_w_ok (cuts := [38, 86, 90]) 3 86 _ _ _ _ H

-- ScaleForge$StudyText.takeTest(I)Z at 90
set_option maxRecDepth 20000 in
theorem B123_p90_16 {N : Nat} {xs : Nat → Int32} {Q : iq_T} (v1 : Int) (v2 : Int) (g : iq_I) (l : iq_J) (H : Q (some (iq_i 0)) g l) :
    iq_P N xs 123 90 [some (iq_r 16), some (iq_i v1), some (iq_i v2)] [] g l Q := iq_w_ok (cuts := [38, 86, 90]) 2 90 _ _ _ _ H

-- ScaleForge$StudyText.mostNumber(II)I at 0
set_option maxRecDepth 20000 in
theorem B124 {N : Nat} {xs : Nat → Int32} {Q : iq_T} (a0 : Int) (a1 : Int) (g : iq_I) (l : iq_J) (H : (-2147483648 ≤ a0 ∧ a0 ≤ 2147483647) ∧
    (¬ a0 = (6 : Int) → ((-2147483648 ≤ a1 ∧ a1 ≤ 2147483647) ∧
      (a1 < (2 : Int) → (Q (some (iq_i 59)) g l)) ∧
      ((2 : Int) ≤ a1 → (Q (some (iq_i 60)) g l)))) ∧
    (a0 = (6 : Int) → (Q (some (iq_i 99)) g l))) :
    iq_P N xs 124 0 [some (iq_i a0), some (iq_i a1)] [] g l Q := iq_w_ok (cuts := []) 9 0 _ _ _ _ H

-- ScaleForge$StudyText.takeStep(I)Z at 0
set_option maxRecDepth 20000 in
theorem B125_16 {N : Nat} {xs : Nat → Int32} {Q : iq_T} (a0 : Int) (g : iq_I) (l : iq_J) (H : (-2147483648 ≤ a0 ∧ a0 ≤ 2147483647) ∧
    (¬ a0 = (-1 : Int) → ((-2147483648 ≤ (g 17 4) ∧ (g 17 4) ≤ 2147483647) ∧
      ((g 17 4) < (0 : Int) → (iq_P N xs 63 0 [some (iq_r 10), some (iq_i 6)] [] g l (fun r g1 l2 => ∃ z3, r = some (iq_i z3) ∧ ((z3 = 0 ∨ z3 = 1) ∧ Q (some (iq_i z3)) g1 l2)))) ∧
      ((0 : Int) ≤ (g 17 4) → ((-2147483648 ≤ (g 17 4) ∧ (g 17 4) ≤ 2147483647) ∧
        ((g 17 4) < (30 : Int) → ((-2147483648 ≤ a0 ∧ a0 ≤ 2147483647) ∧
          (a0 = (4 : Int) → ((-2147483648 ≤ (g 16 3) ∧ (g 16 3) ≤ 2147483647) ∧
              ((g 16 3) < (0 : Int) → (iq_P N xs 63 0 [some (iq_r 10), some (iq_i 7)] [] g l (fun r g4 l5 => ∃ z6, r = some (iq_i z6) ∧ ((z6 = 0 ∨ z6 = 1) ∧ Q (some (iq_i z6)) g4 l5)))) ∧
              ((0 : Int) ≤ (g 16 3) → ((-2147483648 ≤ (g 16 3) ∧ (g 16 3) ≤ 2147483647) ∧
                ((g 16 3) < (3 : Int) → ((0 ≤ (g 17 4) ∧ (g 17 4) < 30) ∧ (iq_P N xs 125 103 [some (iq_r 16), some (iq_i a0), some (iq_i (g 17 4)), some (iq_i 1), none] [] (iq_uz g 18 (g 17 4) a0) l Q))) ∧
                ((3 : Int) ≤ (g 16 3) → (iq_P N xs 63 0 [some (iq_r 10), some (iq_i 7)] [] g l (fun r g7 l8 => ∃ z9, r = some (iq_i z9) ∧ ((z9 = 0 ∨ z9 = 1) ∧ Q (some (iq_i z9)) g7 l8)))))))) ∧
          (¬ a0 = (4 : Int) → ((-2147483648 ≤ a0 ∧ a0 ≤ 2147483647) ∧
            (a0 = (5 : Int) → ((-2147483648 ≤ (g 16 3) ∧ (g 16 3) ≤ 2147483647) ∧
                ((g 16 3) < (0 : Int) → (iq_P N xs 63 0 [some (iq_r 10), some (iq_i 7)] [] g l (fun r g10 l11 => ∃ z12, r = some (iq_i z12) ∧ ((z12 = 0 ∨ z12 = 1) ∧ Q (some (iq_i z12)) g10 l11)))) ∧
                ((0 : Int) ≤ (g 16 3) → ((-2147483648 ≤ (g 16 3) ∧ (g 16 3) ≤ 2147483647) ∧
                  ((g 16 3) < (3 : Int) → ((0 ≤ (g 17 4) ∧ (g 17 4) < 30) ∧ (iq_P N xs 125 103 [some (iq_r 16), some (iq_i a0), some (iq_i (g 17 4)), some (iq_i 1), none] [] (iq_uz g 18 (g 17 4) a0) l Q))) ∧
                  ((3 : Int) ≤ (g 16 3) → (iq_P N xs 63 0 [some (iq_r 10), some (iq_i 7)] [] g l (fun r g13 l14 => ∃ z15, r = some (iq_i z15) ∧ ((z15 = 0 ∨ z15 = 1) ∧ Q (some (iq_i z15)) g13 l14)))))))) ∧
            (¬ a0 = (5 : Int) → ((-2147483648 ≤ a0 ∧ a0 ≤ 2147483647) ∧
              (¬ a0 = (6 : Int) → ((0 ≤ (g 17 4) ∧ (g 17 4) < 30) ∧ (iq_P N xs 125 103 [some (iq_r 16), some (iq_i a0), some (iq_i (g 17 4)), some (iq_i 0), none] [] (iq_uz g 18 (g 17 4) a0) l Q))) ∧
              (a0 = (6 : Int) → ((-2147483648 ≤ (g 16 3) ∧ (g 16 3) ≤ 2147483647) ∧
                  ((g 16 3) < (0 : Int) → (iq_P N xs 63 0 [some (iq_r 10), some (iq_i 7)] [] g l (fun r g16 l17 => ∃ z18, r = some (iq_i z18) ∧ ((z18 = 0 ∨ z18 = 1) ∧ Q (some (iq_i z18)) g16 l17)))) ∧
                  ((0 : Int) ≤ (g 16 3) → ((-2147483648 ≤ (g 16 3) ∧ (g 16 3) ≤ 2147483647) ∧
                    ((g 16 3) < (3 : Int) → ((0 ≤ (g 17 4) ∧ (g 17 4) < 30) ∧ (iq_P N xs 125 103 [some (iq_r 16), some (iq_i a0), some (iq_i (g 17 4)), some (iq_i 1), none] [] (iq_uz g 18 (g 17 4) a0) l Q))) ∧
                    ((3 : Int) ≤ (g 16 3) → (iq_P N xs 63 0 [some (iq_r 10), some (iq_i 7)] [] g l (fun r g19 l20 => ∃ z21, r = some (iq_i z21) ∧ ((z21 = 0 ∨ z21 = 1) ∧ Q (some (iq_i z21)) g19 l20)))))))))))))) ∧
        ((30 : Int) ≤ (g 17 4) → (iq_P N xs 63 0 [some (iq_r 10), some (iq_i 6)] [] g l (fun r g22 l23 => ∃ z24, r = some (iq_i z24) ∧ ((z24 = 0 ∨ z24 = 1) ∧ Q (some (iq_i z24)) g22 l23)))))))) ∧
    (a0 = (-1 : Int) → (iq_P N xs 63 0 [some (iq_r 10), some (iq_i 2)] [] g l (fun r g25 l26 => ∃ z27, r = some (iq_i z27) ∧ ((z27 = 0 ∨ z27 = 1) ∧ Q (some (iq_i z27)) g25 l26))))) :
    iq_P N xs 125 0 [some (iq_r 16), some (iq_i a0), none, none, none] [] g l Q := iq_w_ok (cuts := [103, 113, 175, 177, 182, 194, 201, 240, 242, 267]) 39 0 _ _ _ _ H

-- ScaleForge$StudyText.takeStep(I)Z at 103
set_option maxRecDepth 20000 in
theorem B125_p103_16 {N : Nat} {xs : Nat → Int32} {Q : iq_T} (v1 : Int) (v2 : Int) (v3 : Int) (g : iq_I) (l : iq_J) (H : (0 ≤ v2 ∧ v2 < 30) ∧ (iq_P N xs 125 113 [some (iq_r 16), some (iq_i v1), some (iq_i v2), some (iq_i v3), none] [] (iq_uz g 19 v2 (-1)) l Q)) :
    iq_P N xs 125 103 [some (iq_r 16), some (iq_i v1), some (iq_i v2), some (iq_i v3), none] [] g l Q := iq_w_ok (cuts := [103, 113, 175, 177, 182, 194, 201, 240, 242, 267]) 6 103 _ _ _ _ H

-- ScaleForge$StudyText.takeStep(I)Z at 113
set_option maxRecDepth 20000 in
theorem B125_p113_16 {N : Nat} {xs : Nat → Int32} {Q : iq_T} (v1 : Int) (v2 : Int) (v3 : Int) (g : iq_I) (l : iq_J) (H : (0 ≤ v2 ∧ v2 < 30) ∧ ((-2147483648 ≤ v3 ∧ v3 ≤ 2147483647) ∧
    (v3 = (0 : Int) → ((-2147483648 ≤ v1 ∧ v1 ≤ 2147483647) ∧
      (¬ v1 = (5 : Int) → (iq_P N xs 125 177 [some (iq_r 16), some (iq_i v1), some (iq_i v2), some (iq_i v3), none] [] (iq_uz (iq_uz g 21 v2 (v2 + 1)) 17 4 ((g 17 4) + 1)) l Q)) ∧
      (v1 = (5 : Int) → (iq_P N xs 123 0 [some (iq_r 16), some (iq_i v2), none] [] (iq_uz (iq_uz g 21 v2 (v2 + 1)) 17 4 ((g 17 4) + 1)) l (fun r g1 l2 => ∃ z3, r = some (iq_i z3) ∧ ((-2147483648 ≤ z3 ∧ z3 ≤ 2147483647) ∧
          (¬ z3 = (0 : Int) → (iq_P N xs 125 177 [some (iq_r 16), some (iq_i v1), some (iq_i v2), some (iq_i v3), none] [] g1 l2 Q)) ∧
          (z3 = (0 : Int) → (iq_P N xs 125 175 [some (iq_r 16), some (iq_i v1), some (iq_i v2), some (iq_i v3), none] [] g1 l2 Q)))))))) ∧
    (¬ v3 = (0 : Int) → ((0 ≤ (g 16 3) ∧ (g 16 3) < 3) ∧ ((-2147483648 ≤ v1 ∧ v1 ≤ 2147483647) ∧
      (¬ v1 = (5 : Int) → (iq_P N xs 125 177 [some (iq_r 16), some (iq_i v1), some (iq_i v2), some (iq_i v3), none] [] (iq_uz (iq_uz (iq_uz (iq_uz g 21 v2 (v2 + 1)) 17 4 ((g 17 4) + 1)) 22 (g 16 3) v2) 16 3 ((g 16 3) + 1)) l Q)) ∧
      (v1 = (5 : Int) → (iq_P N xs 123 0 [some (iq_r 16), some (iq_i v2), none] [] (iq_uz (iq_uz (iq_uz (iq_uz g 21 v2 (v2 + 1)) 17 4 ((g 17 4) + 1)) 22 (g 16 3) v2) 16 3 ((g 16 3) + 1)) l (fun r g4 l5 => ∃ z6, r = some (iq_i z6) ∧ ((-2147483648 ≤ z6 ∧ z6 ≤ 2147483647) ∧
          (¬ z6 = (0 : Int) → (iq_P N xs 125 177 [some (iq_r 16), some (iq_i v1), some (iq_i v2), some (iq_i v3), none] [] g4 l5 Q)) ∧
          (z6 = (0 : Int) → (iq_P N xs 125 175 [some (iq_r 16), some (iq_i v1), some (iq_i v2), some (iq_i v3), none] [] g4 l5 Q))))))))))) :
    iq_P N xs 125 113 [some (iq_r 16), some (iq_i v1), some (iq_i v2), some (iq_i v3), none] [] g l Q := iq_w_ok (cuts := [103, 113, 175, 177, 182, 194, 201, 240, 242, 267]) 36 113 _ _ _ _ H

-- ScaleForge$StudyText.takeStep(I)Z at 175
set_option maxRecDepth 20000 in
theorem B125_p175_16 {N : Nat} {xs : Nat → Int32} {Q : iq_T} (v1 : Int) (v2 : Int) (v3 : Int) (g : iq_I) (l : iq_J) (H : Q (some (iq_i 0)) g l) :
    iq_P N xs 125 175 [some (iq_r 16), some (iq_i v1), some (iq_i v2), some (iq_i v3), none] [] g l Q := iq_w_ok (cuts := [103, 113, 175, 177, 182, 194, 201, 240, 242, 267]) 2 175 _ _ _ _ H

-- ScaleForge$StudyText.takeStep(I)Z at 177
set_option maxRecDepth 20000 in
theorem B125_p177_16 {N : Nat} {xs : Nat → Int32} {Q : iq_T} (v1 : Int) (v2 : Int) (v3 : Int) (g : iq_I) (l : iq_J) (H : (-2147483648 ≤ v1 ∧ v1 ≤ 2147483647) ∧
    (v1 = (3 : Int) → (iq_P N xs 125 194 [some (iq_r 16), some (iq_i v1), some (iq_i v2), some (iq_i v3), none] [] g l Q)) ∧
    (¬ v1 = (3 : Int) → (iq_P N xs 125 182 [some (iq_r 16), some (iq_i v1), some (iq_i v2), some (iq_i v3), none] [] g l Q))) :
    iq_P N xs 125 177 [some (iq_r 16), some (iq_i v1), some (iq_i v2), some (iq_i v3), none] [] g l Q := iq_w_ok (cuts := [103, 113, 175, 177, 182, 194, 201, 240, 242, 267]) 3 177 _ _ _ _ H

-- ScaleForge$StudyText.takeStep(I)Z at 182
set_option maxRecDepth 20000 in
theorem B125_p182_16 {N : Nat} {xs : Nat → Int32} {Q : iq_T} (v1 : Int) (v2 : Int) (v3 : Int) (g : iq_I) (l : iq_J) (H : (-2147483648 ≤ v1 ∧ v1 ≤ 2147483647) ∧
    (v1 = (7 : Int) → (iq_P N xs 125 194 [some (iq_r 16), some (iq_i v1), some (iq_i v2), some (iq_i v3), none] [] g l Q)) ∧
    (¬ v1 = (7 : Int) → ((-2147483648 ≤ v1 ∧ v1 ≤ 2147483647) ∧
      (¬ v1 = (8 : Int) → (iq_P N xs 125 201 [some (iq_r 16), some (iq_i v1), some (iq_i v2), some (iq_i v3), some (iq_i 0)] [] g l Q)) ∧
      (v1 = (8 : Int) → (iq_P N xs 125 194 [some (iq_r 16), some (iq_i v1), some (iq_i v2), some (iq_i v3), none] [] g l Q))))) :
    iq_P N xs 125 182 [some (iq_r 16), some (iq_i v1), some (iq_i v2), some (iq_i v3), none] [] g l Q := iq_w_ok (cuts := [103, 113, 175, 177, 182, 194, 201, 240, 242, 267]) 8 182 _ _ _ _ H

-- ScaleForge$StudyText.takeStep(I)Z at 194
set_option maxRecDepth 20000 in
theorem B125_p194_16 {N : Nat} {xs : Nat → Int32} {Q : iq_T} (v1 : Int) (v2 : Int) (v3 : Int) (g : iq_I) (l : iq_J) (H : iq_P N xs 125 201 [some (iq_r 16), some (iq_i v1), some (iq_i v2), some (iq_i v3), some (iq_i 1)] [] g l Q) :
    iq_P N xs 125 194 [some (iq_r 16), some (iq_i v1), some (iq_i v2), some (iq_i v3), none] [] g l Q := iq_w_ok (cuts := [103, 113, 175, 177, 182, 194, 201, 240, 242, 267]) 3 194 _ _ _ _ H

-- ScaleForge$StudyText.takeStep(I)Z at 201
set_option maxRecDepth 20000 in
theorem B125_p201_16 {N : Nat} {xs : Nat → Int32} {Q : iq_T} (v1 : Int) (v2 : Int) (v3 : Int) (v4 : Int) (g : iq_I) (l : iq_J) (H : (-2147483648 ≤ v4 ∧ v4 ≤ 2147483647) ∧
    (¬ v4 = (0 : Int) → (iq_P N xs 125 242 [some (iq_r 16), some (iq_i v1), some (iq_i v2), some (iq_i v3), some (iq_i v4)] [] g l Q)) ∧
    (v4 = (0 : Int) → ((-2147483648 ≤ v1 ∧ v1 ≤ 2147483647) ∧
      (¬ v1 = (6 : Int) → ((0 ≤ v2 ∧ v2 < 30) ∧ (iq_P N xs 124 0 [some (iq_i v1), some (iq_i (g 19 v2))] [] g l (fun r g1 l2 => ∃ z3, r = some (iq_i z3) ∧ (iq_P N xs 82 0 [some (iq_r 10), some (iq_i 0), some (iq_i z3)] [] g1 l2 (fun r g4 l5 => ∃ z6, r = some (iq_i z6) ∧ ((-2147483648 ≤ z6 ∧ z6 ≤ 2147483647) ∧
            (¬ z6 = (0 : Int) → (iq_P N xs 125 242 [some (iq_r 16), some (iq_i v1), some (iq_i v2), some (iq_i v3), some (iq_i v4)] [] g4 l5 Q)) ∧
            (z6 = (0 : Int) → (iq_P N xs 125 240 [some (iq_r 16), some (iq_i v1), some (iq_i v2), some (iq_i v3), some (iq_i v4)] [] g4 l5 Q))))))))) ∧
      (v1 = (6 : Int) → ((0 ≤ v2 ∧ v2 < 30) ∧ (iq_P N xs 124 0 [some (iq_i v1), some (iq_i (g 19 v2))] [] g l (fun r g7 l8 => ∃ z9, r = some (iq_i z9) ∧ (iq_P N xs 82 0 [some (iq_r 10), some (iq_i 1), some (iq_i z9)] [] g7 l8 (fun r g10 l11 => ∃ z12, r = some (iq_i z12) ∧ ((-2147483648 ≤ z12 ∧ z12 ≤ 2147483647) ∧
            (¬ z12 = (0 : Int) → (iq_P N xs 125 242 [some (iq_r 16), some (iq_i v1), some (iq_i v2), some (iq_i v3), some (iq_i v4)] [] g10 l11 Q)) ∧
            (z12 = (0 : Int) → (iq_P N xs 125 240 [some (iq_r 16), some (iq_i v1), some (iq_i v2), some (iq_i v3), some (iq_i v4)] [] g10 l11 Q)))))))))))) :
    iq_P N xs 125 201 [some (iq_r 16), some (iq_i v1), some (iq_i v2), some (iq_i v3), some (iq_i v4)] [] g l Q := iq_w_ok (cuts := [103, 113, 175, 177, 182, 194, 201, 240, 242, 267]) 18 201 _ _ _ _ H

-- ScaleForge$StudyText.takeStep(I)Z at 240
set_option maxRecDepth 20000 in
theorem B125_p240_16 {N : Nat} {xs : Nat → Int32} {Q : iq_T} (v1 : Int) (v2 : Int) (v3 : Int) (v4 : Int) (g : iq_I) (l : iq_J) (H : Q (some (iq_i 0)) g l) :
    iq_P N xs 125 240 [some (iq_r 16), some (iq_i v1), some (iq_i v2), some (iq_i v3), some (iq_i v4)] [] g l Q := iq_w_ok (cuts := [103, 113, 175, 177, 182, 194, 201, 240, 242, 267]) 2 240 _ _ _ _ H

-- ScaleForge$StudyText.takeStep(I)Z at 242
set_option maxRecDepth 20000 in
theorem B125_p242_16 {N : Nat} {xs : Nat → Int32} {Q : iq_T} (v1 : Int) (v2 : Int) (v3 : Int) (v4 : Int) (g : iq_I) (l : iq_J) (H : (-2147483648 ≤ v4 ∧ v4 ≤ 2147483647) ∧
    (v4 = (0 : Int) → ((0 ≤ v2 ∧ v2 < 30) ∧ (iq_P N xs 125 267 [some (iq_r 16), some (iq_i v1), some (iq_i v2), some (iq_i v3), some (iq_i v4)] [] (iq_uz g 20 v2 (g 10 6)) l Q))) ∧
    (¬ v4 = (0 : Int) → ((0 ≤ v2 ∧ v2 < 30) ∧ (iq_P N xs 125 267 [some (iq_r 16), some (iq_i v1), some (iq_i v2), some (iq_i v3), some (iq_i v4)] [] (iq_uz g 20 v2 0) l Q)))) :
    iq_P N xs 125 242 [some (iq_r 16), some (iq_i v1), some (iq_i v2), some (iq_i v3), some (iq_i v4)] [] g l Q := iq_w_ok (cuts := [103, 113, 175, 177, 182, 194, 201, 240, 242, 267]) 10 242 _ _ _ _ H

-- ScaleForge$StudyText.takeStep(I)Z at 267
set_option maxRecDepth 20000 in
theorem B125_p267_16 {N : Nat} {xs : Nat → Int32} {Q : iq_T} (v1 : Int) (v2 : Int) (v3 : Int) (v4 : Int) (g : iq_I) (l : iq_J) (H : iq_P N xs 84 0 [some (iq_r 10)] [] g l (fun r g1 l2 => ∃ z3, r = some (iq_i z3) ∧ ((z3 = 0 ∨ z3 = 1) ∧ Q (some (iq_i z3)) g1 l2))) :
    iq_P N xs 125 267 [some (iq_r 16), some (iq_i v1), some (iq_i v2), some (iq_i v3), some (iq_i v4)] [] g l Q := iq_w_ok (cuts := [103, 113, 175, 177, 182, 194, 201, 240, 242, 267]) 4 267 _ _ _ _ H

-- ScaleForge$StudyText.parse(I)Z at 0
set_option maxRecDepth 20000 in
theorem B126_16 {N : Nat} {xs : Nat → Int32} {Q : iq_T} (a0 : Int) (g : iq_I) (l : iq_J) (H : iq_P N xs 55 0 [some (iq_r 10), some (iq_i a0)] [] g l (fun r g1 l2 => r = none ∧ (iq_P N xs 126 31 [some (iq_r 16), some (iq_i a0), some (iq_i 0), none] [] (iq_uz (iq_uz (iq_uz g1 17 4 0) 17 5 1) 16 3 0) l2 Q))) :
    iq_P N xs 126 0 [some (iq_r 16), some (iq_i a0), none, none] [] g l Q := iq_w_ok (cuts := [31]) 17 0 _ _ _ _ H

-- ScaleForge$StudyText.parse(I)Z at 31
set_option maxRecDepth 20000 in
theorem B126_p31_16 {N : Nat} {xs : Nat → Int32} {Q : iq_T} (v1 : Int) (v2 : Int) (d3 : Option iq_V) (g : iq_I) (l : iq_J) (H : (-2147483648 ≤ v2 ∧ v2 ≤ 2147483647) ∧
    ((300 : Int) < v2 → (iq_P N xs 63 0 [some (iq_r 10), some (iq_i 2)] [] g l (fun r g1 l2 => ∃ z3, r = some (iq_i z3) ∧ ((z3 = 0 ∨ z3 = 1) ∧ Q (some (iq_i z3)) g1 l2)))) ∧
    (v2 ≤ (300 : Int) → (iq_P N xs 64 0 [some (iq_r 10), none] [] g l (fun r g4 l5 => ∃ z6, r = some (iq_i z6) ∧ ((-2147483648 ≤ z6 ∧ z6 ≤ 2147483647) ∧
        (¬ z6 = (0 : Int) → ((-2147483648 ≤ (g4 10 4) ∧ (g4 10 4) ≤ 2147483647) ∧
          (¬ (g4 10 4) = (0 : Int) → (iq_P N xs 72 0 [some (iq_r 10), some (iq_r 1000020), none] [] g4 l5 (fun r g7 l8 => ∃ z9, r = some (iq_i z9) ∧ ((-2147483648 ≤ z9 ∧ z9 ≤ 2147483647) ∧
              (z9 = (0 : Int) → (iq_P N xs 120 0 [some (iq_r 16)] [] g7 l8 (fun r g10 l11 => ∃ z12, r = some (iq_i z12) ∧ (iq_P N xs 125 0 [some (iq_r 16), some (iq_i z12), none, none, none] [] g10 l11 (fun r g13 l14 => ∃ z15, r = some (iq_i z15) ∧ ((-2147483648 ≤ z15 ∧ z15 ≤ 2147483647) ∧
                    (¬ z15 = (0 : Int) → (iq_P N xs 126 31 [some (iq_r 16), some (iq_i v1), some (iq_i (v2 + 1)), some (iq_i z15)] [] g13 l14 Q)) ∧
                    (z15 = (0 : Int) → (Q (some (iq_i 0)) g13 l14)))))))) ∧
              (¬ z9 = (0 : Int) → (iq_P N xs 119 0 [some (iq_r 16), none] [] g7 l8 (fun r g16 l17 => ∃ z18, r = some (iq_i z18) ∧ ((-2147483648 ≤ z18 ∧ z18 ≤ 2147483647) ∧
                  (¬ z18 = (0 : Int) → (iq_P N xs 126 31 [some (iq_r 16), some (iq_i v1), some (iq_i (v2 + 1)), some (iq_i z18)] [] g16 l17 Q)) ∧
                  (z18 = (0 : Int) → (Q (some (iq_i 0)) g16 l17)))))))))) ∧
          ((g4 10 4) = (0 : Int) → ((-2147483648 ≤ (g4 16 3) ∧ (g4 16 3) ≤ 2147483647) ∧
            ((g4 16 3) = (0 : Int) → (Q (some (iq_i 1)) g4 l5)) ∧
            (¬ (g4 16 3) = (0 : Int) → (iq_P N xs 63 0 [some (iq_r 10), some (iq_i 2)] [] g4 l5 (fun r g19 l20 => ∃ z21, r = some (iq_i z21) ∧ ((-2147483648 ≤ z21 ∧ z21 ≤ 2147483647) ∧
                (z21 = (0 : Int) → (Q (some (iq_i 0)) g19 l20)) ∧
                (¬ z21 = (0 : Int) → (Q (some (iq_i 1)) g19 l20)))))))))) ∧
        (z6 = (0 : Int) → (Q (some (iq_i 0)) g4 l5))))))) :
    iq_P N xs 126 31 [some (iq_r 16), some (iq_i v1), some (iq_i v2), d3] [] g l Q := iq_w_ok (cuts := [31]) 25 31 _ _ _ _ H

-- ScaleForge$Studies.becomes(LScaleForge$Studies;)V at 0
set_option maxRecDepth 20000 in
theorem B127_26_17 {N : Nat} {xs : Nat → Int32} {Q : iq_T} (g : iq_I) (l : iq_J) (H : (0 ≤ (0 : Int) ∧ 0 ≤ (0 : Int) ∧ 0 ≤ (30 : Int) ∧ (0 : Int) + 30 ≤ 30 ∧ (0 : Int) + 30 ≤ 30) ∧ ((0 ≤ (0 : Int) ∧ 0 ≤ (0 : Int) ∧ 0 ≤ (30 : Int) ∧ (0 : Int) + 30 ≤ 30 ∧ (0 : Int) + 30 ≤ 30) ∧ ((0 ≤ (0 : Int) ∧ 0 ≤ (0 : Int) ∧ 0 ≤ (30 : Int) ∧ (0 : Int) + 30 ≤ 30 ∧ (0 : Int) + 30 ≤ 30) ∧ ((0 ≤ (0 : Int) ∧ 0 ≤ (0 : Int) ∧ 0 ≤ (30 : Int) ∧ (0 : Int) + 30 ≤ 30 ∧ (0 : Int) + 30 ≤ 30) ∧ (iq_P N xs 127 68 [some (iq_r 26), some (iq_r 17)] [] (iq_uz (iq_rz (iq_rz (iq_rz (iq_rz g 27 (iq_cz (g 18) (g 27) 0 0 30)) 28 (iq_cz (g 19) (g 28) 0 0 30)) 29 (iq_cz (g 20) (g 29) 0 0 30)) 30 (iq_cz (g 21) (g 30) 0 0 30)) 26 4 (g 17 4)) l Q))))) :
    iq_P N xs 127 0 [some (iq_r 26), some (iq_r 17)] [] g l Q := iq_w_ok (cuts := [68]) 36 0 _ _ _ _ H

-- ScaleForge$Studies.becomes(LScaleForge$Studies;)V at 68
set_option maxRecDepth 20000 in
theorem B127_p68_26_17 {N : Nat} {xs : Nat → Int32} {Q : iq_T} (g : iq_I) (l : iq_J) (H : ((g 17 5) = 0 ∨ (g 17 5) = 1) ∧ (Q (none) (iq_uz g 26 5 (g 17 5)) l)) :
    iq_P N xs 127 68 [some (iq_r 26), some (iq_r 17)] [] g l Q := iq_w_ok (cuts := [68]) 5 68 _ _ _ _ H

-- ScaleForge.studies(I)I at 0
set_option maxRecDepth 20000 in
theorem B128_0 {N : Nat} {xs : Nat → Int32} {Q : iq_T} (a0 : Int) (g : iq_I) (l : iq_J) (H : (-2147483648 ≤ a0 ∧ a0 ≤ 2147483647) ∧
    (a0 < (0 : Int) → (iq_P N xs 44 0 [some (iq_r 0), some (iq_i 1)] [] g l (fun r g1 l2 => ∃ z3, r = some (iq_i z3) ∧ (Q (some (iq_i z3)) g1 l2)))) ∧
    ((0 : Int) ≤ a0 → ((-2147483648 ≤ a0 ∧ a0 ≤ 2147483647 ∧ -2147483648 ≤ (g 10 1) ∧ (g 10 1) ≤ 2147483647) ∧
      ((g 10 1) < a0 → (iq_P N xs 44 0 [some (iq_r 0), some (iq_i 1)] [] g l (fun r g4 l5 => ∃ z6, r = some (iq_i z6) ∧ (Q (some (iq_i z6)) g4 l5)))) ∧
      (a0 ≤ (g 10 1) → ((-2147483648 ≤ a0 ∧ a0 ≤ 2147483647) ∧
        (a0 ≤ (300 : Int) → (iq_P N xs 126 0 [some (iq_r 16), some (iq_i a0), none, none] [] g l (fun r g7 l8 => ∃ z9, r = some (iq_i z9) ∧ ((-2147483648 ≤ z9 ∧ z9 ≤ 2147483647) ∧
            (¬ z9 = (0 : Int) → (iq_P N xs 127 0 [some (iq_r 26), some (iq_r 17)] [] (iq_uz g7 10 1 0) l8 (fun r g10 l11 => r = none ∧ (iq_P N xs 90 0 [some (iq_r 0), some (iq_i (g10 26 4))] [] g10 l11 (fun r g12 l13 => ∃ z14, r = some (iq_i z14) ∧ (Q (some (iq_i z14)) g12 l13)))))) ∧
            (z9 = (0 : Int) → (iq_P N xs 44 0 [some (iq_r 0), some (iq_i 9)] [] (iq_uz g7 10 1 0) l8 (fun r g15 l16 => ∃ z17, r = some (iq_i z17) ∧ (Q (some (iq_i z17)) g15 l16)))))))) ∧
        ((300 : Int) < a0 → (iq_P N xs 44 0 [some (iq_r 0), some (iq_i 1)] [] g l (fun r g18 l19 => ∃ z20, r = some (iq_i z20) ∧ (Q (some (iq_i z20)) g18 l19))))))))) :
    iq_P N xs 128 0 [some (iq_r 0), some (iq_i a0), none] [] g l Q := iq_w_ok (cuts := []) 33 0 _ _ _ _ H

-- ScaleForgeModel.test(I)Z at 0
set_option maxRecDepth 20000 in
theorem B129_77 {N : Nat} {xs : Nat → Int32} {Q : iq_T} (a0 : Int) (g : iq_I) (l : iq_J) (H : iq_P N xs 99 0 [some (iq_r 77), some (iq_r 1000033), none, none, none, none, none] [] g l (fun r g1 l2 => ∃ z3, r = some (iq_i z3) ∧ ((-2147483648 ≤ z3 ∧ z3 ≤ 2147483647) ∧
      (z3 = (9 : Int) → ((0 ≤ a0 ∧ a0 < 2392) ∧ (iq_P N xs 96 0 [some (iq_r 77), none] [] (iq_uz g1 78 a0 (1500 + z3)) l2 (fun r g4 l5 => r = none ∧ ((-2147483648 ≤ z3 ∧ z3 ≤ 2147483647) ∧
          (z3 = (20 : Int) → (iq_P N xs 104 0 [some (iq_r 77), some (iq_i 60)] [] g4 l5 (fun r g6 l7 => ∃ z8, r = some (iq_i z8) ∧ ((-2147483648 ≤ z8 ∧ z8 ≤ 2147483647) ∧
              (¬ z8 = (0 : Int) → (iq_P N xs 129 90 [some (iq_r 77), some (iq_i a0), some (iq_i z3)] [] g6 l7 Q)) ∧
              (z8 = (0 : Int) → (iq_P N xs 104 0 [some (iq_r 77), some (iq_i 62)] [] g6 l7 (fun r g9 l10 => ∃ z11, r = some (iq_i z11) ∧ ((-2147483648 ≤ z11 ∧ z11 ≤ 2147483647) ∧
                  (¬ z11 = (0 : Int) → (iq_P N xs 129 90 [some (iq_r 77), some (iq_i a0), some (iq_i z3)] [] g9 l10 Q)) ∧
                  (z11 = (0 : Int) → (iq_P N xs 104 0 [some (iq_r 77), some (iq_i 61)] [] g9 l10 (fun r g12 l13 => ∃ z14, r = some (iq_i z14) ∧ ((-2147483648 ≤ z14 ∧ z14 ≤ 2147483647) ∧
                      (¬ z14 = (0 : Int) → (iq_P N xs 129 90 [some (iq_r 77), some (iq_i a0), some (iq_i z3)] [] g12 l13 Q)) ∧
                      (z14 = (0 : Int) → (iq_P N xs 129 84 [some (iq_r 77), some (iq_i a0), some (iq_i z3)] [] g12 l13 Q)))))))))))))) ∧
          (¬ z3 = (20 : Int) → (iq_P N xs 102 0 [some (iq_r 77), some (iq_i (a0 + 1)), some (iq_i 0), some (iq_i 59)] [] g4 l5 (fun r g15 l16 => ∃ z17, r = some (iq_i z17) ∧ ((z17 = 0 ∨ z17 = 1) ∧ Q (some (iq_i z17)) g15 l16))))))))) ∧
      (¬ z3 = (9 : Int) → ((-2147483648 ≤ z3 ∧ z3 ≤ 2147483647) ∧
        ((19 : Int) ≤ z3 → ((0 ≤ a0 ∧ a0 < 2392) ∧ (iq_P N xs 96 0 [some (iq_r 77), none] [] (iq_uz g1 78 a0 (1500 + z3)) l2 (fun r g18 l19 => r = none ∧ ((-2147483648 ≤ z3 ∧ z3 ≤ 2147483647) ∧
            (z3 = (20 : Int) → (iq_P N xs 104 0 [some (iq_r 77), some (iq_i 60)] [] g18 l19 (fun r g20 l21 => ∃ z22, r = some (iq_i z22) ∧ ((-2147483648 ≤ z22 ∧ z22 ≤ 2147483647) ∧
                (¬ z22 = (0 : Int) → (iq_P N xs 129 90 [some (iq_r 77), some (iq_i a0), some (iq_i z3)] [] g20 l21 Q)) ∧
                (z22 = (0 : Int) → (iq_P N xs 104 0 [some (iq_r 77), some (iq_i 62)] [] g20 l21 (fun r g23 l24 => ∃ z25, r = some (iq_i z25) ∧ ((-2147483648 ≤ z25 ∧ z25 ≤ 2147483647) ∧
                    (¬ z25 = (0 : Int) → (iq_P N xs 129 90 [some (iq_r 77), some (iq_i a0), some (iq_i z3)] [] g23 l24 Q)) ∧
                    (z25 = (0 : Int) → (iq_P N xs 104 0 [some (iq_r 77), some (iq_i 61)] [] g23 l24 (fun r g26 l27 => ∃ z28, r = some (iq_i z28) ∧ ((-2147483648 ≤ z28 ∧ z28 ≤ 2147483647) ∧
                        (¬ z28 = (0 : Int) → (iq_P N xs 129 90 [some (iq_r 77), some (iq_i a0), some (iq_i z3)] [] g26 l27 Q)) ∧
                        (z28 = (0 : Int) → (iq_P N xs 129 84 [some (iq_r 77), some (iq_i a0), some (iq_i z3)] [] g26 l27 Q)))))))))))))) ∧
            (¬ z3 = (20 : Int) → (iq_P N xs 102 0 [some (iq_r 77), some (iq_i (a0 + 1)), some (iq_i 0), some (iq_i 59)] [] g18 l19 (fun r g29 l30 => ∃ z31, r = some (iq_i z31) ∧ ((z31 = 0 ∨ z31 = 1) ∧ Q (some (iq_i z31)) g29 l30))))))))) ∧
        (z3 < (19 : Int) → (iq_P N xs 100 0 [some (iq_r 77), some (iq_i 2)] [] g1 l2 (fun r g32 l33 => ∃ z34, r = some (iq_i z34) ∧ ((z34 = 0 ∨ z34 = 1) ∧ Q (some (iq_i z34)) g32 l33))))))))) :
    iq_P N xs 129 0 [some (iq_r 77), some (iq_i a0), none] [] g l Q := iq_w_ok (cuts := [84, 90, 102]) 34 0 _ _ _ _ H

-- ScaleForgeModel.test(I)Z at 84
set_option maxRecDepth 20000 in
theorem B129_p84_77 {N : Nat} {xs : Nat → Int32} {Q : iq_T} (v1 : Int) (v2 : Int) (g : iq_I) (l : iq_J) (H : iq_P N xs 100 0 [some (iq_r 77), some (iq_i 2)] [] g l (fun r g1 l2 => ∃ z3, r = some (iq_i z3) ∧ ((z3 = 0 ∨ z3 = 1) ∧ Q (some (iq_i z3)) g1 l2))) :
    iq_P N xs 129 84 [some (iq_r 77), some (iq_i v1), some (iq_i v2)] [] g l Q := iq_w_ok (cuts := [84, 90, 102]) 4 84 _ _ _ _ H
