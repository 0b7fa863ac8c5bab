/-! What must hold that a stretch of a method ends well: methods 320 to 331. -/
-- ScaleForge$Life.dropHeld(I)V at 0
set_option maxRecDepth 20000 in
theorem B320_40 {N : Nat} {xs : Nat → Int32} {Q : iq_T} (a0 : Int) (g : iq_I) (l : iq_J) (H : iq_P N xs 182 0 [some (iq_r 23), some (iq_i a0)] [] g l (fun r g1 l2 => ∃ z3, r = some (iq_i z3) ∧ ((-2147483648 ≤ (g1 40 13) ∧ (g1 40 13) ≤ 2147483647) ∧
      ((g1 40 13) < (0 : Int) → (Q (none) (iq_uz g1 40 13 ((g1 40 13) + 1)) l2)) ∧
      ((0 : Int) ≤ (g1 40 13) → ((-2147483648 ≤ (g1 40 13) ∧ (g1 40 13) ≤ 2147483647) ∧
        ((60 : Int) ≤ (g1 40 13) → (Q (none) (iq_uz g1 40 13 ((g1 40 13) + 1)) l2)) ∧
        ((g1 40 13) < (60 : Int) → ((0 ≤ (g1 40 13) ∧ (g1 40 13) < 60) ∧ (Q (none) (iq_uz (iq_uz g1 43 (g1 40 13) a0) 40 13 ((g1 40 13) + 1)) l2)))))))) :
    iq_P N xs 320 0 [some (iq_r 40), some (iq_i a0)] [] g l Q := iq_w_ok (cuts := []) 27 0 _ _ _ _ H

-- ScaleForge$Life.dropHeld(I)V at 0
set_option maxRecDepth 20000 in
theorem B320_47 {N : Nat} {xs : Nat → Int32} {Q : iq_T} (a0 : Int) (g : iq_I) (l : iq_J) (H : iq_P N xs 182 0 [some (iq_r 44), some (iq_i a0)] [] g l (fun r g1 l2 => ∃ z3, r = some (iq_i z3) ∧ ((-2147483648 ≤ (g1 47 13) ∧ (g1 47 13) ≤ 2147483647) ∧
      ((g1 47 13) < (0 : Int) → (Q (none) (iq_uz g1 47 13 ((g1 47 13) + 1)) l2)) ∧
      ((0 : Int) ≤ (g1 47 13) → ((-2147483648 ≤ (g1 47 13) ∧ (g1 47 13) ≤ 2147483647) ∧
        ((60 : Int) ≤ (g1 47 13) → (Q (none) (iq_uz g1 47 13 ((g1 47 13) + 1)) l2)) ∧
        ((g1 47 13) < (60 : Int) → ((0 ≤ (g1 47 13) ∧ (g1 47 13) < 60) ∧ (Q (none) (iq_uz (iq_uz g1 50 (g1 47 13) a0) 47 13 ((g1 47 13) + 1)) l2)))))))) :
    iq_P N xs 320 0 [some (iq_r 47), some (iq_i a0)] [] g l Q := iq_w_ok (cuts := []) 27 0 _ _ _ _ H

-- ScaleForge$Life.endInnermost()V at 0
set_option maxRecDepth 20000 in
theorem B321_40 {N : Nat} {xs : Nat → Int32} {Q : iq_T} (g : iq_I) (l : iq_J) (H : iq_P N xs 318 0 [some (iq_r 40)] [] g l (fun r g1 l2 => ∃ z3, r = some (iq_i z3) ∧ (iq_P N xs 118 0 [some (iq_r 26), some (iq_i z3)] [] g1 l2 (fun r g4 l5 => ∃ z6, r = some (iq_i z6) ∧ ((-2147483648 ≤ z6 ∧ z6 ≤ 2147483647) ∧
        (¬ z6 = (0 : Int) → ((0 ≤ z3 ∧ z3 < 30) ∧ ((-2147483648 ≤ (g4 27 z3) ∧ (g4 27 z3) ≤ 2147483647) ∧
          (¬ (g4 27 z3) = (4 : Int) → ((0 ≤ ((g4 40 7) - 1) ∧ ((g4 40 7) - 1) < 3) ∧ ((0 ≤ ((g4 40 7) - 1) ∧ ((g4 40 7) - 1) < 3) ∧ ((0 ≤ ((g4 40 7) - 1) ∧ ((g4 40 7) - 1) < 3) ∧ ((-2147483648 ≤ ((iq_uz g4 42 ((g4 40 7) - 1) ((g4 42 ((g4 40 7) - 1)) - 1)) 42 ((g4 40 7) - 1)) ∧ ((iq_uz g4 42 ((g4 40 7) - 1) ((g4 42 ((g4 40 7) - 1)) - 1)) 42 ((g4 40 7) - 1)) ≤ 2147483647) ∧
            (((iq_uz g4 42 ((g4 40 7) - 1) ((g4 42 ((g4 40 7) - 1)) - 1)) 42 ((g4 40 7) - 1)) ≤ (0 : Int) → (iq_P N xs 321 102 [some (iq_r 40), some (iq_i z3)] [] (iq_uz g4 42 ((g4 40 7) - 1) ((g4 42 ((g4 40 7) - 1)) - 1)) l5 Q)) ∧
            ((0 : Int) < ((iq_uz g4 42 ((g4 40 7) - 1) ((g4 42 ((g4 40 7) - 1)) - 1)) 42 ((g4 40 7) - 1)) → (iq_P N xs 321 92 [some (iq_r 40), some (iq_i z3)] [] (iq_uz g4 42 ((g4 40 7) - 1) ((g4 42 ((g4 40 7) - 1)) - 1)) l5 Q))))))) ∧
          ((g4 27 z3) = (4 : Int) → ((0 ≤ z3 ∧ z3 < 30) ∧ (iq_P N xs 320 0 [some (iq_r 40), some (iq_i (g4 29 z3))] [] (iq_uz g4 40 7 ((g4 40 7) - 1)) l5 (fun r g7 l8 => r = none ∧ (Q (none) g7 l8)))))))) ∧
        (z6 = (0 : Int) → (Q (none) (iq_uz g4 40 4 1) l5))))))) :
    iq_P N xs 321 0 [some (iq_r 40), none] [] g l Q := iq_w_ok (cuts := [92, 102]) 34 0 _ _ _ _ H

-- ScaleForge$Life.endInnermost()V at 92
set_option maxRecDepth 20000 in
theorem B321_p92_40 {N : Nat} {xs : Nat → Int32} {Q : iq_T} (v1 : Int) (g : iq_I) (l : iq_J) (H : Q (none) (iq_uz g 40 3 (v1 + 1)) l) :
    iq_P N xs 321 92 [some (iq_r 40), some (iq_i v1)] [] g l Q := iq_w_ok (cuts := [92, 102]) 7 92 _ _ _ _ H

-- ScaleForge$Life.endInnermost()V at 102
set_option maxRecDepth 20000 in
theorem B321_p102_40 {N : Nat} {xs : Nat → Int32} {Q : iq_T} (v1 : Int) (g : iq_I) (l : iq_J) (H : Q (none) (iq_uz g 40 7 ((g 40 7) - 1)) l) :
    iq_P N xs 321 102 [some (iq_r 40), some (iq_i v1)] [] g l Q := iq_w_ok (cuts := [92, 102]) 7 102 _ _ _ _ H

-- ScaleForge$Life.endInnermost()V at 0
set_option maxRecDepth 20000 in
theorem B321_47 {N : Nat} {xs : Nat → Int32} {Q : iq_T} (g : iq_I) (l : iq_J) (H : iq_P N xs 318 0 [some (iq_r 47)] [] g l (fun r g1 l2 => ∃ z3, r = some (iq_i z3) ∧ (iq_P N xs 118 0 [some (iq_r 26), some (iq_i z3)] [] g1 l2 (fun r g4 l5 => ∃ z6, r = some (iq_i z6) ∧ ((-2147483648 ≤ z6 ∧ z6 ≤ 2147483647) ∧
        (¬ z6 = (0 : Int) → ((0 ≤ z3 ∧ z3 < 30) ∧ ((-2147483648 ≤ (g4 27 z3) ∧ (g4 27 z3) ≤ 2147483647) ∧
          (¬ (g4 27 z3) = (4 : Int) → ((0 ≤ ((g4 47 7) - 1) ∧ ((g4 47 7) - 1) < 3) ∧ ((0 ≤ ((g4 47 7) - 1) ∧ ((g4 47 7) - 1) < 3) ∧ ((0 ≤ ((g4 47 7) - 1) ∧ ((g4 47 7) - 1) < 3) ∧ ((-2147483648 ≤ ((iq_uz g4 49 ((g4 47 7) - 1) ((g4 49 ((g4 47 7) - 1)) - 1)) 49 ((g4 47 7) - 1)) ∧ ((iq_uz g4 49 ((g4 47 7) - 1) ((g4 49 ((g4 47 7) - 1)) - 1)) 49 ((g4 47 7) - 1)) ≤ 2147483647) ∧
            (((iq_uz g4 49 ((g4 47 7) - 1) ((g4 49 ((g4 47 7) - 1)) - 1)) 49 ((g4 47 7) - 1)) ≤ (0 : Int) → (iq_P N xs 321 102 [some (iq_r 47), some (iq_i z3)] [] (iq_uz g4 49 ((g4 47 7) - 1) ((g4 49 ((g4 47 7) - 1)) - 1)) l5 Q)) ∧
            ((0 : Int) < ((iq_uz g4 49 ((g4 47 7) - 1) ((g4 49 ((g4 47 7) - 1)) - 1)) 49 ((g4 47 7) - 1)) → (iq_P N xs 321 92 [some (iq_r 47), some (iq_i z3)] [] (iq_uz g4 49 ((g4 47 7) - 1) ((g4 49 ((g4 47 7) - 1)) - 1)) l5 Q))))))) ∧
          ((g4 27 z3) = (4 : Int) → ((0 ≤ z3 ∧ z3 < 30) ∧ (iq_P N xs 320 0 [some (iq_r 47), some (iq_i (g4 29 z3))] [] (iq_uz g4 47 7 ((g4 47 7) - 1)) l5 (fun r g7 l8 => r = none ∧ (Q (none) g7 l8)))))))) ∧
        (z6 = (0 : Int) → (Q (none) (iq_uz g4 47 4 1) l5))))))) :
    iq_P N xs 321 0 [some (iq_r 47), none] [] g l Q := iq_w_ok (cuts := [92, 102]) 34 0 _ _ _ _ H

-- ScaleForge$Life.endInnermost()V at 92
set_option maxRecDepth 20000 in
theorem B321_p92_47 {N : Nat} {xs : Nat → Int32} {Q : iq_T} (v1 : Int) (g : iq_I) (l : iq_J) (H : Q (none) (iq_uz g 47 3 (v1 + 1)) l) :
    iq_P N xs 321 92 [some (iq_r 47), some (iq_i v1)] [] g l Q := iq_w_ok (cuts := [92, 102]) 7 92 _ _ _ _ H

-- ScaleForge$Life.endInnermost()V at 102
set_option maxRecDepth 20000 in
theorem B321_p102_47 {N : Nat} {xs : Nat → Int32} {Q : iq_T} (v1 : Int) (g : iq_I) (l : iq_J) (H : Q (none) (iq_uz g 47 7 ((g 47 7) - 1)) l) :
    iq_P N xs 321 102 [some (iq_r 47), some (iq_i v1)] [] g l Q := iq_w_ok (cuts := [92, 102]) 7 102 _ _ _ _ H

-- ScaleForge$Life.comesToStep()Z at 0
set_option maxRecDepth 20000 in
theorem B322_40 {N : Nat} {xs : Nat → Int32} {Q : iq_T} (g : iq_I) (l : iq_J) (H : iq_P N xs 118 0 [some (iq_r 26), some (iq_i (g 40 3))] [] g l (fun r g1 l2 => ∃ z3, r = some (iq_i z3) ∧ ((-2147483648 ≤ z3 ∧ z3 ≤ 2147483647) ∧
      (z3 = (0 : Int) → ((-2147483648 ≤ z3 ∧ z3 ≤ 2147483647) ∧
        (z3 = (0 : Int) → ((-2147483648 ≤ (1 : Int) ∧ (1 : Int) ≤ 2147483647) ∧
          ((1 : Int) = (0 : Int) → (iq_P N xs 322 76 [some (iq_r 40), some (iq_i z3)] [] (iq_uz (iq_uz (iq_uz g1 40 14 0) 40 4 1) 40 9 ((g1 40 9) + 1)) l2 Q)) ∧
          (¬ (1 : Int) = (0 : Int) → (iq_P N xs 322 76 [some (iq_r 40), some (iq_i z3)] [] (iq_uz (iq_uz (iq_uz g1 40 14 0) 40 4 1) 40 9 ((g1 40 9) + 0)) l2 Q)))) ∧
        (¬ z3 = (0 : Int) → ((-2147483648 ≤ (0 : Int) ∧ (0 : Int) ≤ 2147483647) ∧
          ((0 : Int) = (0 : Int) → ((-2147483648 ≤ (0 : Int) ∧ (0 : Int) ≤ 2147483647) ∧
            ((0 : Int) = (0 : Int) → (iq_P N xs 322 76 [some (iq_r 40), some (iq_i z3)] [] (iq_uz (iq_uz (iq_uz g1 40 14 0) 40 4 0) 40 9 ((g1 40 9) + 1)) l2 Q)) ∧
            (¬ (0 : Int) = (0 : Int) → (iq_P N xs 322 76 [some (iq_r 40), some (iq_i z3)] [] (iq_uz (iq_uz (iq_uz g1 40 14 0) 40 4 0) 40 9 ((g1 40 9) + 0)) l2 Q)))) ∧
          (¬ (0 : Int) = (0 : Int) → ((-2147483648 ≤ (1 : Int) ∧ (1 : Int) ≤ 2147483647) ∧
            ((1 : Int) = (0 : Int) → (iq_P N xs 322 76 [some (iq_r 40), some (iq_i z3)] [] (iq_uz (iq_uz (iq_uz g1 40 14 0) 40 4 1) 40 9 ((g1 40 9) + 1)) l2 Q)) ∧
            (¬ (1 : Int) = (0 : Int) → (iq_P N xs 322 76 [some (iq_r 40), some (iq_i z3)] [] (iq_uz (iq_uz (iq_uz g1 40 14 0) 40 4 1) 40 9 ((g1 40 9) + 0)) l2 Q)))))))) ∧
      (¬ z3 = (0 : Int) → ((-2147483648 ≤ (g1 40 9) ∧ (g1 40 9) ≤ 2147483647) ∧
        ((g1 40 9) < (300 : Int) → ((-2147483648 ≤ z3 ∧ z3 ≤ 2147483647) ∧
          (z3 = (0 : Int) → ((-2147483648 ≤ (1 : Int) ∧ (1 : Int) ≤ 2147483647) ∧
            ((1 : Int) = (0 : Int) → (iq_P N xs 322 76 [some (iq_r 40), some (iq_i z3)] [] (iq_uz (iq_uz (iq_uz g1 40 14 0) 40 4 1) 40 9 ((g1 40 9) + 1)) l2 Q)) ∧
            (¬ (1 : Int) = (0 : Int) → (iq_P N xs 322 76 [some (iq_r 40), some (iq_i z3)] [] (iq_uz (iq_uz (iq_uz g1 40 14 0) 40 4 1) 40 9 ((g1 40 9) + 0)) l2 Q)))) ∧
          (¬ z3 = (0 : Int) → ((-2147483648 ≤ (0 : Int) ∧ (0 : Int) ≤ 2147483647) ∧
            ((0 : Int) = (0 : Int) → ((-2147483648 ≤ (0 : Int) ∧ (0 : Int) ≤ 2147483647) ∧
              ((0 : Int) = (0 : Int) → (iq_P N xs 322 76 [some (iq_r 40), some (iq_i z3)] [] (iq_uz (iq_uz (iq_uz g1 40 14 0) 40 4 0) 40 9 ((g1 40 9) + 1)) l2 Q)) ∧
              (¬ (0 : Int) = (0 : Int) → (iq_P N xs 322 76 [some (iq_r 40), some (iq_i z3)] [] (iq_uz (iq_uz (iq_uz g1 40 14 0) 40 4 0) 40 9 ((g1 40 9) + 0)) l2 Q)))) ∧
            (¬ (0 : Int) = (0 : Int) → ((-2147483648 ≤ (1 : Int) ∧ (1 : Int) ≤ 2147483647) ∧
              ((1 : Int) = (0 : Int) → (iq_P N xs 322 76 [some (iq_r 40), some (iq_i z3)] [] (iq_uz (iq_uz (iq_uz g1 40 14 0) 40 4 1) 40 9 ((g1 40 9) + 1)) l2 Q)) ∧
              (¬ (1 : Int) = (0 : Int) → (iq_P N xs 322 76 [some (iq_r 40), some (iq_i z3)] [] (iq_uz (iq_uz (iq_uz g1 40 14 0) 40 4 1) 40 9 ((g1 40 9) + 0)) l2 Q)))))))) ∧
        ((300 : Int) ≤ (g1 40 9) → ((-2147483648 ≤ z3 ∧ z3 ≤ 2147483647) ∧
          (z3 = (0 : Int) → ((-2147483648 ≤ (1 : Int) ∧ (1 : Int) ≤ 2147483647) ∧
            ((1 : Int) = (0 : Int) → (iq_P N xs 322 76 [some (iq_r 40), some (iq_i z3)] [] (iq_uz (iq_uz (iq_uz g1 40 14 1) 40 4 1) 40 9 ((g1 40 9) + 1)) l2 Q)) ∧
            (¬ (1 : Int) = (0 : Int) → (iq_P N xs 322 76 [some (iq_r 40), some (iq_i z3)] [] (iq_uz (iq_uz (iq_uz g1 40 14 1) 40 4 1) 40 9 ((g1 40 9) + 0)) l2 Q)))) ∧
          (¬ z3 = (0 : Int) → ((-2147483648 ≤ (1 : Int) ∧ (1 : Int) ≤ 2147483647) ∧
            ((1 : Int) = (0 : Int) → ((-2147483648 ≤ (0 : Int) ∧ (0 : Int) ≤ 2147483647) ∧
              ((0 : Int) = (0 : Int) → (iq_P N xs 322 76 [some (iq_r 40), some (iq_i z3)] [] (iq_uz (iq_uz (iq_uz g1 40 14 1) 40 4 0) 40 9 ((g1 40 9) + 1)) l2 Q)) ∧
              (¬ (0 : Int) = (0 : Int) → (iq_P N xs 322 76 [some (iq_r 40), some (iq_i z3)] [] (iq_uz (iq_uz (iq_uz g1 40 14 1) 40 4 0) 40 9 ((g1 40 9) + 0)) l2 Q)))) ∧
            (¬ (1 : Int) = (0 : Int) → ((-2147483648 ≤ (1 : Int) ∧ (1 : Int) ≤ 2147483647) ∧
              ((1 : Int) = (0 : Int) → (iq_P N xs 322 76 [some (iq_r 40), some (iq_i z3)] [] (iq_uz (iq_uz (iq_uz g1 40 14 1) 40 4 1) 40 9 ((g1 40 9) + 1)) l2 Q)) ∧
              (¬ (1 : Int) = (0 : Int) → (iq_P N xs 322 76 [some (iq_r 40), some (iq_i z3)] [] (iq_uz (iq_uz (iq_uz g1 40 14 1) 40 4 1) 40 9 ((g1 40 9) + 0)) l2 Q))))))))))))) :
    iq_P N xs 322 0 [some (iq_r 40), none] [] g l Q := iq_w_ok (cuts := [76, 83, 87]) 35 0 _ _ _ _ H

-- ScaleForge$Life.comesToStep()Z at 76
set_option maxRecDepth 20000 in
theorem B322_p76_40 {N : Nat} {xs : Nat → Int32} {Q : iq_T} (v1 : Int) (g : iq_I) (l : iq_J) (H : (-2147483648 ≤ (g 40 4) ∧ (g 40 4) ≤ 2147483647) ∧
    (¬ (g 40 4) = (0 : Int) → (iq_P N xs 322 87 [some (iq_r 40), some (iq_i v1)] [] g l Q)) ∧
    ((g 40 4) = (0 : Int) → (iq_P N xs 322 83 [some (iq_r 40), some (iq_i v1)] [] g l Q))) :
    iq_P N xs 322 76 [some (iq_r 40), some (iq_i v1)] [] g l Q := iq_w_ok (cuts := [76, 83, 87]) 3 76 _ _ _ _ H

-- ScaleForge$Life.comesToStep()Z at 83
set_option maxRecDepth 20000 in
theorem B322_p83_40 {N : Nat} {xs : Nat → Int32} {Q : iq_T} (v1 : Int) (g : iq_I) (l : iq_J) (H : Q (some (iq_i 1)) g l) :
    iq_P N xs 322 83 [some (iq_r 40), some (iq_i v1)] [] g l Q := iq_w_ok (cuts := [76, 83, 87]) 3 83 _ _ _ _ H

-- ScaleForge$Life.comesToStep()Z at 87
set_option maxRecDepth 20000 in
theorem B322_p87_40 {N : Nat} {xs : Nat → Int32} {Q : iq_T} (v1 : Int) (g : iq_I) (l : iq_J) (H : Q (some (iq_i 0)) g l) :
    iq_P N xs 322 87 [some (iq_r 40), some (iq_i v1)] [] g l Q := iq_w_ok (cuts := [76, 83, 87]) 2 87 _ _ _ _ H

-- ScaleForge$Life.comesToStep()Z at 0
set_option maxRecDepth 20000 in
theorem B322_47 {N : Nat} {xs : Nat → Int32} {Q : iq_T} (g : iq_I) (l : iq_J) (H : iq_P N xs 118 0 [some (iq_r 26), some (iq_i (g 47 3))] [] g l (fun r g1 l2 => ∃ z3, r = some (iq_i z3) ∧ ((-2147483648 ≤ z3 ∧ z3 ≤ 2147483647) ∧
      (z3 = (0 : Int) → ((-2147483648 ≤ z3 ∧ z3 ≤ 2147483647) ∧
        (z3 = (0 : Int) → ((-2147483648 ≤ (1 : Int) ∧ (1 : Int) ≤ 2147483647) ∧
          ((1 : Int) = (0 : Int) → (iq_P N xs 322 76 [some (iq_r 47), some (iq_i z3)] [] (iq_uz (iq_uz (iq_uz g1 47 14 0) 47 4 1) 47 9 ((g1 47 9) + 1)) l2 Q)) ∧
          (¬ (1 : Int) = (0 : Int) → (iq_P N xs 322 76 [some (iq_r 47), some (iq_i z3)] [] (iq_uz (iq_uz (iq_uz g1 47 14 0) 47 4 1) 47 9 ((g1 47 9) + 0)) l2 Q)))) ∧
        (¬ z3 = (0 : Int) → ((-2147483648 ≤ (0 : Int) ∧ (0 : Int) ≤ 2147483647) ∧
          ((0 : Int) = (0 : Int) → ((-2147483648 ≤ (0 : Int) ∧ (0 : Int) ≤ 2147483647) ∧
            ((0 : Int) = (0 : Int) → (iq_P N xs 322 76 [some (iq_r 47), some (iq_i z3)] [] (iq_uz (iq_uz (iq_uz g1 47 14 0) 47 4 0) 47 9 ((g1 47 9) + 1)) l2 Q)) ∧
            (¬ (0 : Int) = (0 : Int) → (iq_P N xs 322 76 [some (iq_r 47), some (iq_i z3)] [] (iq_uz (iq_uz (iq_uz g1 47 14 0) 47 4 0) 47 9 ((g1 47 9) + 0)) l2 Q)))) ∧
          (¬ (0 : Int) = (0 : Int) → ((-2147483648 ≤ (1 : Int) ∧ (1 : Int) ≤ 2147483647) ∧
            ((1 : Int) = (0 : Int) → (iq_P N xs 322 76 [some (iq_r 47), some (iq_i z3)] [] (iq_uz (iq_uz (iq_uz g1 47 14 0) 47 4 1) 47 9 ((g1 47 9) + 1)) l2 Q)) ∧
            (¬ (1 : Int) = (0 : Int) → (iq_P N xs 322 76 [some (iq_r 47), some (iq_i z3)] [] (iq_uz (iq_uz (iq_uz g1 47 14 0) 47 4 1) 47 9 ((g1 47 9) + 0)) l2 Q)))))))) ∧
      (¬ z3 = (0 : Int) → ((-2147483648 ≤ (g1 47 9) ∧ (g1 47 9) ≤ 2147483647) ∧
        ((g1 47 9) < (300 : Int) → ((-2147483648 ≤ z3 ∧ z3 ≤ 2147483647) ∧
          (z3 = (0 : Int) → ((-2147483648 ≤ (1 : Int) ∧ (1 : Int) ≤ 2147483647) ∧
            ((1 : Int) = (0 : Int) → (iq_P N xs 322 76 [some (iq_r 47), some (iq_i z3)] [] (iq_uz (iq_uz (iq_uz g1 47 14 0) 47 4 1) 47 9 ((g1 47 9) + 1)) l2 Q)) ∧
            (¬ (1 : Int) = (0 : Int) → (iq_P N xs 322 76 [some (iq_r 47), some (iq_i z3)] [] (iq_uz (iq_uz (iq_uz g1 47 14 0) 47 4 1) 47 9 ((g1 47 9) + 0)) l2 Q)))) ∧
          (¬ z3 = (0 : Int) → ((-2147483648 ≤ (0 : Int) ∧ (0 : Int) ≤ 2147483647) ∧
            ((0 : Int) = (0 : Int) → ((-2147483648 ≤ (0 : Int) ∧ (0 : Int) ≤ 2147483647) ∧
              ((0 : Int) = (0 : Int) → (iq_P N xs 322 76 [some (iq_r 47), some (iq_i z3)] [] (iq_uz (iq_uz (iq_uz g1 47 14 0) 47 4 0) 47 9 ((g1 47 9) + 1)) l2 Q)) ∧
              (¬ (0 : Int) = (0 : Int) → (iq_P N xs 322 76 [some (iq_r 47), some (iq_i z3)] [] (iq_uz (iq_uz (iq_uz g1 47 14 0) 47 4 0) 47 9 ((g1 47 9) + 0)) l2 Q)))) ∧
            (¬ (0 : Int) = (0 : Int) → ((-2147483648 ≤ (1 : Int) ∧ (1 : Int) ≤ 2147483647) ∧
              ((1 : Int) = (0 : Int) → (iq_P N xs 322 76 [some (iq_r 47), some (iq_i z3)] [] (iq_uz (iq_uz (iq_uz g1 47 14 0) 47 4 1) 47 9 ((g1 47 9) + 1)) l2 Q)) ∧
              (¬ (1 : Int) = (0 : Int) → (iq_P N xs 322 76 [some (iq_r 47), some (iq_i z3)] [] (iq_uz (iq_uz (iq_uz g1 47 14 0) 47 4 1) 47 9 ((g1 47 9) + 0)) l2 Q)))))))) ∧
        ((300 : Int) ≤ (g1 47 9) → ((-2147483648 ≤ z3 ∧ z3 ≤ 2147483647) ∧
          (z3 = (0 : Int) → ((-2147483648 ≤ (1 : Int) ∧ (1 : Int) ≤ 2147483647) ∧
            ((1 : Int) = (0 : Int) → (iq_P N xs 322 76 [some (iq_r 47), some (iq_i z3)] [] (iq_uz (iq_uz (iq_uz g1 47 14 1) 47 4 1) 47 9 ((g1 47 9) + 1)) l2 Q)) ∧
            (¬ (1 : Int) = (0 : Int) → (iq_P N xs 322 76 [some (iq_r 47), some (iq_i z3)] [] (iq_uz (iq_uz (iq_uz g1 47 14 1) 47 4 1) 47 9 ((g1 47 9) + 0)) l2 Q)))) ∧
          (¬ z3 = (0 : Int) → ((-2147483648 ≤ (1 : Int) ∧ (1 : Int) ≤ 2147483647) ∧
            ((1 : Int) = (0 : Int) → ((-2147483648 ≤ (0 : Int) ∧ (0 : Int) ≤ 2147483647) ∧
              ((0 : Int) = (0 : Int) → (iq_P N xs 322 76 [some (iq_r 47), some (iq_i z3)] [] (iq_uz (iq_uz (iq_uz g1 47 14 1) 47 4 0) 47 9 ((g1 47 9) + 1)) l2 Q)) ∧
              (¬ (0 : Int) = (0 : Int) → (iq_P N xs 322 76 [some (iq_r 47), some (iq_i z3)] [] (iq_uz (iq_uz (iq_uz g1 47 14 1) 47 4 0) 47 9 ((g1 47 9) + 0)) l2 Q)))) ∧
            (¬ (1 : Int) = (0 : Int) → ((-2147483648 ≤ (1 : Int) ∧ (1 : Int) ≤ 2147483647) ∧
              ((1 : Int) = (0 : Int) → (iq_P N xs 322 76 [some (iq_r 47), some (iq_i z3)] [] (iq_uz (iq_uz (iq_uz g1 47 14 1) 47 4 1) 47 9 ((g1 47 9) + 1)) l2 Q)) ∧
              (¬ (1 : Int) = (0 : Int) → (iq_P N xs 322 76 [some (iq_r 47), some (iq_i z3)] [] (iq_uz (iq_uz (iq_uz g1 47 14 1) 47 4 1) 47 9 ((g1 47 9) + 0)) l2 Q))))))))))))) :
    iq_P N xs 322 0 [some (iq_r 47), none] [] g l Q := iq_w_ok (cuts := [76, 83, 87]) 35 0 _ _ _ _ H

-- ScaleForge$Life.comesToStep()Z at 76
set_option maxRecDepth 20000 in
theorem B322_p76_47 {N : Nat} {xs : Nat → Int32} {Q : iq_T} (v1 : Int) (g : iq_I) (l : iq_J) (H : (-2147483648 ≤ (g 47 4) ∧ (g 47 4) ≤ 2147483647) ∧
    (¬ (g 47 4) = (0 : Int) → (iq_P N xs 322 87 [some (iq_r 47), some (iq_i v1)] [] g l Q)) ∧
    ((g 47 4) = (0 : Int) → (iq_P N xs 322 83 [some (iq_r 47), some (iq_i v1)] [] g l Q))) :
    iq_P N xs 322 76 [some (iq_r 47), some (iq_i v1)] [] g l Q := iq_w_ok (cuts := [76, 83, 87]) 3 76 _ _ _ _ H

-- ScaleForge$Life.comesToStep()Z at 83
set_option maxRecDepth 20000 in
theorem B322_p83_47 {N : Nat} {xs : Nat → Int32} {Q : iq_T} (v1 : Int) (g : iq_I) (l : iq_J) (H : Q (some (iq_i 1)) g l) :
    iq_P N xs 322 83 [some (iq_r 47), some (iq_i v1)] [] g l Q := iq_w_ok (cuts := [76, 83, 87]) 3 83 _ _ _ _ H

-- ScaleForge$Life.comesToStep()Z at 87
set_option maxRecDepth 20000 in
theorem B322_p87_47 {N : Nat} {xs : Nat → Int32} {Q : iq_T} (v1 : Int) (g : iq_I) (l : iq_J) (H : Q (some (iq_i 0)) g l) :
    iq_P N xs 322 87 [some (iq_r 47), some (iq_i v1)] [] g l Q := iq_w_ok (cuts := [76, 83, 87]) 2 87 _ _ _ _ H

-- ScaleForge$Life.strikeOrMiss(I)Z at 0
set_option maxRecDepth 20000 in
theorem B323_40 {N : Nat} {xs : Nat → Int32} {Q : iq_T} (a0 : Int) (g : iq_I) (l : iq_J) (H : iq_P N xs 178 0 [some (iq_r 23), some (iq_i a0)] [] g l (fun r g1 l2 => ∃ z3, r = some (iq_i z3) ∧ ((-2147483648 ≤ z3 ∧ z3 ≤ 2147483647) ∧
      (z3 = (0 : Int) → ((-2147483648 ≤ z3 ∧ z3 ≤ 2147483647) ∧
        (z3 = (0 : Int) → ((z3 = 0 ∨ z3 = 1) ∧ Q (some (iq_i z3)) (iq_uz (iq_uz g1 40 11 ((g1 40 11) + 0)) 40 10 ((g1 40 10) + 1)) l2)) ∧
        (¬ z3 = (0 : Int) → ((z3 = 0 ∨ z3 = 1) ∧ Q (some (iq_i z3)) (iq_uz (iq_uz g1 40 11 ((g1 40 11) + 0)) 40 10 ((g1 40 10) + 0)) l2)))) ∧
      (¬ z3 = (0 : Int) → ((-2147483648 ≤ z3 ∧ z3 ≤ 2147483647) ∧
        (z3 = (0 : Int) → ((z3 = 0 ∨ z3 = 1) ∧ Q (some (iq_i z3)) (iq_uz (iq_uz g1 40 11 ((g1 40 11) + 1)) 40 10 ((g1 40 10) + 1)) l2)) ∧
        (¬ z3 = (0 : Int) → ((z3 = 0 ∨ z3 = 1) ∧ Q (some (iq_i z3)) (iq_uz (iq_uz g1 40 11 ((g1 40 11) + 1)) 40 10 ((g1 40 10) + 0)) l2))))))) :
    iq_P N xs 323 0 [some (iq_r 40), some (iq_i a0), none] [] g l Q := iq_w_ok (cuts := []) 25 0 _ _ _ _ H

-- ScaleForge$Life.strikeOrMiss(I)Z at 0
set_option maxRecDepth 20000 in
theorem B323_47 {N : Nat} {xs : Nat → Int32} {Q : iq_T} (a0 : Int) (g : iq_I) (l : iq_J) (H : iq_P N xs 178 0 [some (iq_r 44), some (iq_i a0)] [] g l (fun r g1 l2 => ∃ z3, r = some (iq_i z3) ∧ ((-2147483648 ≤ z3 ∧ z3 ≤ 2147483647) ∧
      (z3 = (0 : Int) → ((-2147483648 ≤ z3 ∧ z3 ≤ 2147483647) ∧
        (z3 = (0 : Int) → ((z3 = 0 ∨ z3 = 1) ∧ Q (some (iq_i z3)) (iq_uz (iq_uz g1 47 11 ((g1 47 11) + 0)) 47 10 ((g1 47 10) + 1)) l2)) ∧
        (¬ z3 = (0 : Int) → ((z3 = 0 ∨ z3 = 1) ∧ Q (some (iq_i z3)) (iq_uz (iq_uz g1 47 11 ((g1 47 11) + 0)) 47 10 ((g1 47 10) + 0)) l2)))) ∧
      (¬ z3 = (0 : Int) → ((-2147483648 ≤ z3 ∧ z3 ≤ 2147483647) ∧
        (z3 = (0 : Int) → ((z3 = 0 ∨ z3 = 1) ∧ Q (some (iq_i z3)) (iq_uz (iq_uz g1 47 11 ((g1 47 11) + 1)) 47 10 ((g1 47 10) + 1)) l2)) ∧
        (¬ z3 = (0 : Int) → ((z3 = 0 ∨ z3 = 1) ∧ Q (some (iq_i z3)) (iq_uz (iq_uz g1 47 11 ((g1 47 11) + 1)) 47 10 ((g1 47 10) + 0)) l2))))))) :
    iq_P N xs 323 0 [some (iq_r 47), some (iq_i a0), none] [] g l Q := iq_w_ok (cuts := []) 25 0 _ _ _ _ H

-- ScaleForge$Life.releaseOrMiss(I)V at 0
set_option maxRecDepth 20000 in
theorem B324_40 {N : Nat} {xs : Nat → Int32} {Q : iq_T} (a0 : Int) (g : iq_I) (l : iq_J) (H : iq_P N xs 182 0 [some (iq_r 23), some (iq_i a0)] [] g l (fun r g1 l2 => ∃ z3, r = some (iq_i z3) ∧ ((-2147483648 ≤ z3 ∧ z3 ≤ 2147483647) ∧
      (z3 = (0 : Int) → ((-2147483648 ≤ z3 ∧ z3 ≤ 2147483647) ∧
        (z3 = (0 : Int) → (Q (none) (iq_uz (iq_uz g1 40 12 ((g1 40 12) + 0)) 40 10 ((g1 40 10) + 1)) l2)) ∧
        (¬ z3 = (0 : Int) → (Q (none) (iq_uz (iq_uz g1 40 12 ((g1 40 12) + 0)) 40 10 ((g1 40 10) + 0)) l2)))) ∧
      (¬ z3 = (0 : Int) → ((-2147483648 ≤ z3 ∧ z3 ≤ 2147483647) ∧
        (z3 = (0 : Int) → (Q (none) (iq_uz (iq_uz g1 40 12 ((g1 40 12) + 1)) 40 10 ((g1 40 10) + 1)) l2)) ∧
        (¬ z3 = (0 : Int) → (Q (none) (iq_uz (iq_uz g1 40 12 ((g1 40 12) + 1)) 40 10 ((g1 40 10) + 0)) l2))))))) :
    iq_P N xs 324 0 [some (iq_r 40), some (iq_i a0), none] [] g l Q := iq_w_ok (cuts := []) 24 0 _ _ _ _ H

-- ScaleForge$Life.releaseOrMiss(I)V at 0
set_option maxRecDepth 20000 in
theorem B324_47 {N : Nat} {xs : Nat → Int32} {Q : iq_T} (a0 : Int) (g : iq_I) (l : iq_J) (H : iq_P N xs 182 0 [some (iq_r 44), some (iq_i a0)] [] g l (fun r g1 l2 => ∃ z3, r = some (iq_i z3) ∧ ((-2147483648 ≤ z3 ∧ z3 ≤ 2147483647) ∧
      (z3 = (0 : Int) → ((-2147483648 ≤ z3 ∧ z3 ≤ 2147483647) ∧
        (z3 = (0 : Int) → (Q (none) (iq_uz (iq_uz g1 47 12 ((g1 47 12) + 0)) 47 10 ((g1 47 10) + 1)) l2)) ∧
        (¬ z3 = (0 : Int) → (Q (none) (iq_uz (iq_uz g1 47 12 ((g1 47 12) + 0)) 47 10 ((g1 47 10) + 0)) l2)))) ∧
      (¬ z3 = (0 : Int) → ((-2147483648 ≤ z3 ∧ z3 ≤ 2147483647) ∧
        (z3 = (0 : Int) → (Q (none) (iq_uz (iq_uz g1 47 12 ((g1 47 12) + 1)) 47 10 ((g1 47 10) + 1)) l2)) ∧
        (¬ z3 = (0 : Int) → (Q (none) (iq_uz (iq_uz g1 47 12 ((g1 47 12) + 1)) 47 10 ((g1 47 10) + 0)) l2))))))) :
    iq_P N xs 324 0 [some (iq_r 47), some (iq_i a0), none] [] g l Q := iq_w_ok (cuts := []) 24 0 _ _ _ _ H

-- ScaleForge$Scale.moveRoot(I)Z at 0
set_option maxRecDepth 20000 in
theorem B325_23 {N : Nat} {xs : Nat → Int32} {Q : iq_T} (a0 : Int) (g : iq_I) (l : iq_J) (H : iq_P N xs 77 0 [some (iq_r 23), some (iq_i a0)] [] g l (fun r g1 l2 => ∃ z3, r = some (iq_i z3) ∧ ((-2147483648 ≤ z3 ∧ z3 ≤ 2147483647) ∧
      (z3 = (0 : Int) → (Q (some (iq_i 0)) g1 l2)) ∧
      (¬ z3 = (0 : Int) → ((-2147483648 ≤ (g1 24 5) ∧ (g1 24 5) ≤ 2147483647 ∧ -2147483648 ≤ a0 ∧ a0 ≤ 2147483647) ∧
        (¬ (g1 24 5) = a0 → (iq_P N xs 8 0 [some (iq_r 23), some (iq_i (g1 24 2)), some (iq_i a0), some (iq_i (g1 24 3)), none, none, none, none] [] (iq_uz g1 24 5 a0) l2 (fun r g4 l5 => ∃ x6, r = some (iq_l x6) ∧ (Q (some (iq_i 1)) g4 (iq_uz l5 23 4 x6))))) ∧
        ((g1 24 5) = a0 → (Q (some (iq_i 0)) g1 l2))))))) :
    iq_P N xs 325 0 [some (iq_r 23), some (iq_i a0)] [] g l Q := iq_w_ok (cuts := []) 30 0 _ _ _ _ H

-- ScaleForge$Scale.moveRoot(I)Z at 0
set_option maxRecDepth 20000 in
theorem B325_44 {N : Nat} {xs : Nat → Int32} {Q : iq_T} (a0 : Int) (g : iq_I) (l : iq_J) (H : iq_P N xs 77 0 [some (iq_r 44), some (iq_i a0)] [] g l (fun r g1 l2 => ∃ z3, r = some (iq_i z3) ∧ ((-2147483648 ≤ z3 ∧ z3 ≤ 2147483647) ∧
      (z3 = (0 : Int) → (Q (some (iq_i 0)) g1 l2)) ∧
      (¬ z3 = (0 : Int) → ((-2147483648 ≤ (g1 45 5) ∧ (g1 45 5) ≤ 2147483647 ∧ -2147483648 ≤ a0 ∧ a0 ≤ 2147483647) ∧
        (¬ (g1 45 5) = a0 → (iq_P N xs 8 0 [some (iq_r 44), some (iq_i (g1 45 2)), some (iq_i a0), some (iq_i (g1 45 3)), none, none, none, none] [] (iq_uz g1 45 5 a0) l2 (fun r g4 l5 => ∃ x6, r = some (iq_l x6) ∧ (Q (some (iq_i 1)) g4 (iq_uz l5 44 4 x6))))) ∧
        ((g1 45 5) = a0 → (Q (some (iq_i 0)) g1 l2))))))) :
    iq_P N xs 325 0 [some (iq_r 44), some (iq_i a0)] [] g l Q := iq_w_ok (cuts := []) 30 0 _ _ _ _ H

-- ScaleForge$Life.draw(I)I at 0
set_option maxRecDepth 20000 in
theorem B326_40 {N : Nat} {xs : Nat → Int32} {Q : iq_T} (a0 : Int) (g : iq_I) (l : iq_J) (H : (-2147483648 < (((g 40 2) * 3293) + 11527) ∧ (((g 40 2) * 3293) + 11527) ≤ 2147483647 ∧ -2147483648 ≤ (65536 : Int) ∧ (65536 : Int) ≤ 2147483647 ∧ ¬ (65536 : Int) = 0) ∧ ((-2147483648 ≤ a0 ∧ a0 ≤ 2147483647) ∧
    (a0 ≤ (0 : Int) → (Q (some (iq_i 0)) (iq_uz g 40 2 (Int.tmod (((g 40 2) * 3293) + 11527) (65536 : Int))) l)) ∧
    ((0 : Int) < a0 → ((-2147483648 < (Int.tmod (((g 40 2) * 3293) + 11527) (65536 : Int)) ∧ (Int.tmod (((g 40 2) * 3293) + 11527) (65536 : Int)) ≤ 2147483647 ∧ -2147483648 ≤ (8 : Int) ∧ (8 : Int) ≤ 2147483647 ∧ ¬ (8 : Int) = 0) ∧ ((-2147483648 < (Int.tdiv (Int.tmod (((g 40 2) * 3293) + 11527) (65536 : Int)) (8 : Int)) ∧ (Int.tdiv (Int.tmod (((g 40 2) * 3293) + 11527) (65536 : Int)) (8 : Int)) ≤ 2147483647 ∧ -2147483648 ≤ a0 ∧ a0 ≤ 2147483647 ∧ ¬ a0 = 0) ∧ (Q (some (iq_i (Int.tmod (Int.tdiv (Int.tmod (((g 40 2) * 3293) + 11527) (65536 : Int)) (8 : Int)) a0))) (iq_uz g 40 2 (Int.tmod (((g 40 2) * 3293) + 11527) (65536 : Int))) l)))))) :
    iq_P N xs 326 0 [some (iq_r 40), some (iq_i a0)] [] g l Q := iq_w_ok (cuts := []) 20 0 _ _ _ _ H

-- ScaleForge$Life.draw(I)I at 0
set_option maxRecDepth 20000 in
theorem B326_47 {N : Nat} {xs : Nat → Int32} {Q : iq_T} (a0 : Int) (g : iq_I) (l : iq_J) (H : (-2147483648 < (((g 47 2) * 3293) + 11527) ∧ (((g 47 2) * 3293) + 11527) ≤ 2147483647 ∧ -2147483648 ≤ (65536 : Int) ∧ (65536 : Int) ≤ 2147483647 ∧ ¬ (65536 : Int) = 0) ∧ ((-2147483648 ≤ a0 ∧ a0 ≤ 2147483647) ∧
    (a0 ≤ (0 : Int) → (Q (some (iq_i 0)) (iq_uz g 47 2 (Int.tmod (((g 47 2) * 3293) + 11527) (65536 : Int))) l)) ∧
    ((0 : Int) < a0 → ((-2147483648 < (Int.tmod (((g 47 2) * 3293) + 11527) (65536 : Int)) ∧ (Int.tmod (((g 47 2) * 3293) + 11527) (65536 : Int)) ≤ 2147483647 ∧ -2147483648 ≤ (8 : Int) ∧ (8 : Int) ≤ 2147483647 ∧ ¬ (8 : Int) = 0) ∧ ((-2147483648 < (Int.tdiv (Int.tmod (((g 47 2) * 3293) + 11527) (65536 : Int)) (8 : Int)) ∧ (Int.tdiv (Int.tmod (((g 47 2) * 3293) + 11527) (65536 : Int)) (8 : Int)) ≤ 2147483647 ∧ -2147483648 ≤ a0 ∧ a0 ≤ 2147483647 ∧ ¬ a0 = 0) ∧ (Q (some (iq_i (Int.tmod (Int.tdiv (Int.tmod (((g 47 2) * 3293) + 11527) (65536 : Int)) (8 : Int)) a0))) (iq_uz g 47 2 (Int.tmod (((g 47 2) * 3293) + 11527) (65536 : Int))) l)))))) :
    iq_P N xs 326 0 [some (iq_r 47), some (iq_i a0)] [] g l Q := iq_w_ok (cuts := []) 20 0 _ _ _ _ H

-- ScaleForge$Life.doAny()V at 0
set_option maxRecDepth 20000 in
theorem B327_40 {N : Nat} {xs : Nat → Int32} {Q : iq_T} (g : iq_I) (l : iq_J) (H : iq_P N xs 80 0 [some (iq_r 23)] [] g l (fun r g1 l2 => ∃ z3, r = some (iq_i z3) ∧ (iq_P N xs 326 0 [some (iq_r 40), some (iq_i z3)] [] g1 l2 (fun r g4 l5 => ∃ z6, r = some (iq_i z6) ∧ (iq_P N xs 326 0 [some (iq_r 40), some (iq_i 16)] [] g4 l5 (fun r g7 l8 => ∃ z9, r = some (iq_i z9) ∧ (iq_P N xs 135 0 [some (iq_r 23), some (iq_i 0)] [] g7 l8 (fun r g10 l11 => ∃ z12, r = some (iq_i z12) ∧ ((-2147483648 ≤ z9 ∧ z9 ≤ 2147483647 ∧ -2147483648 ≤ z12 ∧ z12 ≤ 2147483647) ∧
            (z12 ≤ z9 → (iq_P N xs 323 0 [some (iq_r 40), some (iq_i z6), none] [] g10 l11 (fun r g13 l14 => ∃ z15, r = some (iq_i z15) ∧ (Q (none) g13 l14)))) ∧
            (z9 < z12 → (iq_P N xs 324 0 [some (iq_r 40), some (iq_i z6), none] [] g10 l11 (fun r g16 l17 => r = none ∧ (Q (none) g16 l17))))))))))))) :
    iq_P N xs 327 0 [some (iq_r 40), none] [] g l Q := iq_w_ok (cuts := []) 19 0 _ _ _ _ H

-- ScaleForge$Life.doAny()V at 0
set_option maxRecDepth 20000 in
theorem B327_47 {N : Nat} {xs : Nat → Int32} {Q : iq_T} (g : iq_I) (l : iq_J) (H : iq_P N xs 80 0 [some (iq_r 44)] [] g l (fun r g1 l2 => ∃ z3, r = some (iq_i z3) ∧ (iq_P N xs 326 0 [some (iq_r 47), some (iq_i z3)] [] g1 l2 (fun r g4 l5 => ∃ z6, r = some (iq_i z6) ∧ (iq_P N xs 326 0 [some (iq_r 47), some (iq_i 16)] [] g4 l5 (fun r g7 l8 => ∃ z9, r = some (iq_i z9) ∧ (iq_P N xs 135 0 [some (iq_r 44), some (iq_i 0)] [] g7 l8 (fun r g10 l11 => ∃ z12, r = some (iq_i z12) ∧ ((-2147483648 ≤ z9 ∧ z9 ≤ 2147483647 ∧ -2147483648 ≤ z12 ∧ z12 ≤ 2147483647) ∧
            (z12 ≤ z9 → (iq_P N xs 323 0 [some (iq_r 47), some (iq_i z6), none] [] g10 l11 (fun r g13 l14 => ∃ z15, r = some (iq_i z15) ∧ (Q (none) g13 l14)))) ∧
            (z9 < z12 → (iq_P N xs 324 0 [some (iq_r 47), some (iq_i z6), none] [] g10 l11 (fun r g16 l17 => r = none ∧ (Q (none) g16 l17))))))))))))) :
    iq_P N xs 327 0 [some (iq_r 47), none] [] g l Q := iq_w_ok (cuts := []) 19 0 _ _ _ _ H

-- ScaleForge$Life.enterIf(ZII)V at 0
set_option maxRecDepth 20000 in
theorem B328_40 {N : Nat} {xs : Nat → Int32} {Q : iq_T} (a0 : Int) (a1 : Int) (a2 : Int) (g : iq_I) (l : iq_J) (H : (-2147483648 ≤ a0 ∧ a0 ≤ 2147483647) ∧
    (a0 = (0 : Int) → ((0 ≤ a1 ∧ a1 < 30) ∧ (Q (none) (iq_uz g 40 3 (g 30 a1)) l))) ∧
    (¬ a0 = (0 : Int) → ((-2147483648 ≤ (g 40 7) ∧ (g 40 7) ≤ 2147483647) ∧
      ((g 40 7) < (0 : Int) → ((0 ≤ a1 ∧ a1 < 30) ∧ (Q (none) (iq_uz g 40 3 (g 30 a1)) l))) ∧
      ((0 : Int) ≤ (g 40 7) → ((-2147483648 ≤ (g 40 7) ∧ (g 40 7) ≤ 2147483647) ∧
        ((3 : Int) ≤ (g 40 7) → ((0 ≤ a1 ∧ a1 < 30) ∧ (Q (none) (iq_uz g 40 3 (g 30 a1)) l))) ∧
        ((g 40 7) < (3 : Int) → ((0 ≤ (g 40 7) ∧ (g 40 7) < 3) ∧ ((0 ≤ (g 40 7) ∧ (g 40 7) < 3) ∧ (Q (none) (iq_uz (iq_uz (iq_uz g 41 (g 40 7) a1) 42 (g 40 7) a2) 40 7 ((g 40 7) + 1)) l))))))))) :
    iq_P N xs 328 0 [some (iq_r 40), some (iq_i a0), some (iq_i a1), some (iq_i a2)] [] g l Q := iq_w_ok (cuts := []) 29 0 _ _ _ _ H

-- ScaleForge$Life.enterIf(ZII)V at 0
set_option maxRecDepth 20000 in
theorem B328_47 {N : Nat} {xs : Nat → Int32} {Q : iq_T} (a0 : Int) (a1 : Int) (a2 : Int) (g : iq_I) (l : iq_J) (H : (-2147483648 ≤ a0 ∧ a0 ≤ 2147483647) ∧
    (a0 = (0 : Int) → ((0 ≤ a1 ∧ a1 < 30) ∧ (Q (none) (iq_uz g 47 3 (g 30 a1)) l))) ∧
    (¬ a0 = (0 : Int) → ((-2147483648 ≤ (g 47 7) ∧ (g 47 7) ≤ 2147483647) ∧
      ((g 47 7) < (0 : Int) → ((0 ≤ a1 ∧ a1 < 30) ∧ (Q (none) (iq_uz g 47 3 (g 30 a1)) l))) ∧
      ((0 : Int) ≤ (g 47 7) → ((-2147483648 ≤ (g 47 7) ∧ (g 47 7) ≤ 2147483647) ∧
        ((3 : Int) ≤ (g 47 7) → ((0 ≤ a1 ∧ a1 < 30) ∧ (Q (none) (iq_uz g 47 3 (g 30 a1)) l))) ∧
        ((g 47 7) < (3 : Int) → ((0 ≤ (g 47 7) ∧ (g 47 7) < 3) ∧ ((0 ≤ (g 47 7) ∧ (g 47 7) < 3) ∧ (Q (none) (iq_uz (iq_uz (iq_uz g 48 (g 47 7) a1) 49 (g 47 7) a2) 47 7 ((g 47 7) + 1)) l))))))))) :
    iq_P N xs 328 0 [some (iq_r 47), some (iq_i a0), some (iq_i a1), some (iq_i a2)] [] g l Q := iq_w_ok (cuts := []) 29 0 _ _ _ _ H

-- ScaleForge$Life.isSo(II)Z at 0
set_option maxRecDepth 20000 in
theorem B329_40 {N : Nat} {xs : Nat → Int32} {Q : iq_T} (a0 : Int) (a1 : Int) (g : iq_I) (l : iq_J) (H : (-2147483648 ≤ a0 ∧ a0 ≤ 2147483647 ∧ (3 : Int) - 0 + 1 = 4) ∧ (
    (a0 = 0 → (iq_P N xs 74 0 [some (iq_l (l 23 3)), none, some (iq_i a1)] [] g l (fun r g1 l2 => ∃ z3, r = some (iq_i z3) ∧ ((z3 = 0 ∨ z3 = 1) ∧ Q (some (iq_i z3)) g1 l2)))) ∧
    (a0 = 1 → (iq_P N xs 155 0 [some (iq_r 23), some (iq_i a1)] [] g l (fun r g4 l5 => ∃ z6, r = some (iq_i z6) ∧ ((z6 = 0 ∨ z6 = 1) ∧ Q (some (iq_i z6)) g4 l5)))) ∧
    (a0 = 2 → (iq_P N xs 189 0 [some (iq_r 23)] [] g l (fun r g7 l8 => ∃ z9, r = some (iq_i z9) ∧ ((-2147483648 ≤ z9 ∧ z9 ≤ 2147483647 ∧ -2147483648 ≤ a1 ∧ a1 ≤ 2147483647) ∧
        (a1 ≤ z9 → (Q (some (iq_i 0)) g7 l8)) ∧
        (z9 < a1 → (Q (some (iq_i 1)) g7 l8)))))) ∧
    (a0 = 3 → (iq_P N xs 189 0 [some (iq_r 23)] [] g l (fun r g10 l11 => ∃ z12, r = some (iq_i z12) ∧ ((-2147483648 ≤ z12 ∧ z12 ≤ 2147483647 ∧ -2147483648 ≤ a1 ∧ a1 ≤ 2147483647) ∧
        (z12 ≤ a1 → (Q (some (iq_i 0)) g10 l11)) ∧
        (a1 < z12 → (Q (some (iq_i 1)) g10 l11)))))) ∧ True) ∧
    ((a0 < 0 ∨ 3 < a0) → (iq_P N xs 189 0 [some (iq_r 23)] [] g l (fun r g13 l14 => ∃ z15, r = some (iq_i z15) ∧ ((-2147483648 ≤ z15 ∧ z15 ≤ 2147483647 ∧ -2147483648 ≤ a1 ∧ a1 ≤ 2147483647) ∧
        (¬ z15 = a1 → (Q (some (iq_i 0)) g13 l14)) ∧
        (z15 = a1 → (Q (some (iq_i 1)) g13 l14))))))) :
    iq_P N xs 329 0 [some (iq_r 40), some (iq_i a0), some (iq_i a1)] [] g l Q := iq_w_ok (cuts := []) 10 0 _ _ _ _ H

-- ScaleForge$Life.isSo(II)Z at 0
set_option maxRecDepth 20000 in
theorem B329_47 {N : Nat} {xs : Nat → Int32} {Q : iq_T} (a0 : Int) (a1 : Int) (g : iq_I) (l : iq_J) (H : (-2147483648 ≤ a0 ∧ a0 ≤ 2147483647 ∧ (3 : Int) - 0 + 1 = 4) ∧ (
    (a0 = 0 → (iq_P N xs 74 0 [some (iq_l (l 44 3)), none, some (iq_i a1)] [] g l (fun r g1 l2 => ∃ z3, r = some (iq_i z3) ∧ ((z3 = 0 ∨ z3 = 1) ∧ Q (some (iq_i z3)) g1 l2)))) ∧
    (a0 = 1 → (iq_P N xs 155 0 [some (iq_r 44), some (iq_i a1)] [] g l (fun r g4 l5 => ∃ z6, r = some (iq_i z6) ∧ ((z6 = 0 ∨ z6 = 1) ∧ Q (some (iq_i z6)) g4 l5)))) ∧
    (a0 = 2 → (iq_P N xs 189 0 [some (iq_r 44)] [] g l (fun r g7 l8 => ∃ z9, r = some (iq_i z9) ∧ ((-2147483648 ≤ z9 ∧ z9 ≤ 2147483647 ∧ -2147483648 ≤ a1 ∧ a1 ≤ 2147483647) ∧
        (a1 ≤ z9 → (Q (some (iq_i 0)) g7 l8)) ∧
        (z9 < a1 → (Q (some (iq_i 1)) g7 l8)))))) ∧
    (a0 = 3 → (iq_P N xs 189 0 [some (iq_r 44)] [] g l (fun r g10 l11 => ∃ z12, r = some (iq_i z12) ∧ ((-2147483648 ≤ z12 ∧ z12 ≤ 2147483647 ∧ -2147483648 ≤ a1 ∧ a1 ≤ 2147483647) ∧
        (z12 ≤ a1 → (Q (some (iq_i 0)) g10 l11)) ∧
        (a1 < z12 → (Q (some (iq_i 1)) g10 l11)))))) ∧ True) ∧
    ((a0 < 0 ∨ 3 < a0) → (iq_P N xs 189 0 [some (iq_r 44)] [] g l (fun r g13 l14 => ∃ z15, r = some (iq_i z15) ∧ ((-2147483648 ≤ z15 ∧ z15 ≤ 2147483647 ∧ -2147483648 ≤ a1 ∧ a1 ≤ 2147483647) ∧
        (¬ z15 = a1 → (Q (some (iq_i 0)) g13 l14)) ∧
        (z15 = a1 → (Q (some (iq_i 1)) g13 l14))))))) :
    iq_P N xs 329 0 [some (iq_r 47), some (iq_i a0), some (iq_i a1)] [] g l Q := iq_w_ok (cuts := []) 10 0 _ _ _ _ H

-- ScaleForge$Life.leaveHold()V at 0
set_option maxRecDepth 20000 in
theorem B330_40 {N : Nat} {xs : Nat → Int32} {Q : iq_T} (g : iq_I) (l : iq_J) (H : iq_P N xs 330 5 [some (iq_r 40), some (iq_i (g 40 7)), none] [] g l Q) :
    iq_P N xs 330 0 [some (iq_r 40), none, none] [] g l Q := iq_w_ok (cuts := [5]) 3 0 _ _ _ _ H

-- ScaleForge$Life.leaveHold()V at 5
set_option maxRecDepth 20000 in
theorem B330_p5_40 {N : Nat} {xs : Nat → Int32} {Q : iq_T} (v1 : Int) (d2 : Option iq_V) (g : iq_I) (l : iq_J) (H : (-2147483648 ≤ v1 ∧ v1 ≤ 2147483647) ∧
    (v1 ≤ (0 : Int) → (Q (none) (iq_uz g 40 4 1) l)) ∧
    ((0 : Int) < v1 → (iq_P N xs 318 0 [some (iq_r 40)] [] g l (fun r g1 l2 => ∃ z3, r = some (iq_i z3) ∧ (iq_P N xs 118 0 [some (iq_r 26), some (iq_i z3)] [] g1 l2 (fun r g4 l5 => ∃ z6, r = some (iq_i z6) ∧ ((-2147483648 ≤ z6 ∧ z6 ≤ 2147483647) ∧
          (z6 = (0 : Int) → (iq_P N xs 330 5 [some (iq_r 40), some (iq_i (v1 + (-1))), some (iq_i z3)] [] (iq_uz g4 40 7 ((g4 40 7) - 1)) l5 Q)) ∧
          (¬ z6 = (0 : Int) → ((0 ≤ z3 ∧ z3 < 30) ∧ ((-2147483648 ≤ (g4 27 z3) ∧ (g4 27 z3) ≤ 2147483647) ∧
            (¬ (g4 27 z3) = (4 : Int) → (iq_P N xs 330 5 [some (iq_r 40), some (iq_i (v1 + (-1))), some (iq_i z3)] [] (iq_uz g4 40 7 ((g4 40 7) - 1)) l5 Q)) ∧
            ((g4 27 z3) = (4 : Int) → ((0 ≤ z3 ∧ z3 < 30) ∧ (Q (none) (iq_uz g4 40 3 (g4 30 z3)) l5))))))))))))) :
    iq_P N xs 330 5 [some (iq_r 40), some (iq_i v1), d2] [] g l Q := iq_w_ok (cuts := [5]) 25 5 _ _ _ _ H

-- ScaleForge$Life.leaveHold()V at 0
set_option maxRecDepth 20000 in
theorem B330_47 {N : Nat} {xs : Nat → Int32} {Q : iq_T} (g : iq_I) (l : iq_J) (H : iq_P N xs 330 5 [some (iq_r 47), some (iq_i (g 47 7)), none] [] g l Q) :
    iq_P N xs 330 0 [some (iq_r 47), none, none] [] g l Q := iq_w_ok (cuts := [5]) 3 0 _ _ _ _ H

-- ScaleForge$Life.leaveHold()V at 5
set_option maxRecDepth 20000 in
theorem B330_p5_47 {N : Nat} {xs : Nat → Int32} {Q : iq_T} (v1 : Int) (d2 : Option iq_V) (g : iq_I) (l : iq_J) (H : (-2147483648 ≤ v1 ∧ v1 ≤ 2147483647) ∧
    (v1 ≤ (0 : Int) → (Q (none) (iq_uz g 47 4 1) l)) ∧
    ((0 : Int) < v1 → (iq_P N xs 318 0 [some (iq_r 47)] [] g l (fun r g1 l2 => ∃ z3, r = some (iq_i z3) ∧ (iq_P N xs 118 0 [some (iq_r 26), some (iq_i z3)] [] g1 l2 (fun r g4 l5 => ∃ z6, r = some (iq_i z6) ∧ ((-2147483648 ≤ z6 ∧ z6 ≤ 2147483647) ∧
          (z6 = (0 : Int) → (iq_P N xs 330 5 [some (iq_r 47), some (iq_i (v1 + (-1))), some (iq_i z3)] [] (iq_uz g4 47 7 ((g4 47 7) - 1)) l5 Q)) ∧
          (¬ z6 = (0 : Int) → ((0 ≤ z3 ∧ z3 < 30) ∧ ((-2147483648 ≤ (g4 27 z3) ∧ (g4 27 z3) ≤ 2147483647) ∧
            (¬ (g4 27 z3) = (4 : Int) → (iq_P N xs 330 5 [some (iq_r 47), some (iq_i (v1 + (-1))), some (iq_i z3)] [] (iq_uz g4 47 7 ((g4 47 7) - 1)) l5 Q)) ∧
            ((g4 27 z3) = (4 : Int) → ((0 ≤ z3 ∧ z3 < 30) ∧ (Q (none) (iq_uz g4 47 3 (g4 30 z3)) l5))))))))))))) :
    iq_P N xs 330 5 [some (iq_r 47), some (iq_i v1), d2] [] g l Q := iq_w_ok (cuts := [5]) 25 5 _ _ _ _ H

-- ScaleForge$Life.doStep(I)V at 0
set_option maxRecDepth 20000 in
theorem B331_40 {N : Nat} {xs : Nat → Int32} {Q : iq_T} (a0 : Int) (g : iq_I) (l : iq_J) (H : (0 ≤ a0 ∧ a0 < 30) ∧ ((0 ≤ a0 ∧ a0 < 30) ∧ ((-2147483648 ≤ (g 27 a0) ∧ (g 27 a0) ≤ 2147483647 ∧ (7 : Int) - 0 + 1 = 8) ∧ (
    ((g 27 a0) = 0 → (iq_P N xs 323 0 [some (iq_r 40), some (iq_i (g 29 a0)), none] [] (iq_uz g 40 3 (a0 + 1)) l (fun r g1 l2 => ∃ z3, r = some (iq_i z3) ∧ (Q (none) g1 l2)))) ∧
    ((g 27 a0) = 1 → (iq_P N xs 324 0 [some (iq_r 40), some (iq_i (g 29 a0)), none] [] (iq_uz g 40 3 (a0 + 1)) l (fun r g4 l5 => r = none ∧ (Q (none) g4 l5)))) ∧
    ((g 27 a0) = 2 → (iq_P N xs 325 0 [some (iq_r 23), some (iq_i (g 29 a0))] [] (iq_uz g 40 3 (a0 + 1)) l (fun r g6 l7 => ∃ z8, r = some (iq_i z8) ∧ ((-2147483648 ≤ z8 ∧ z8 ≤ 2147483647) ∧
        (z8 = (0 : Int) → (Q (none) (iq_uz g6 40 10 ((g 40 10) + 1)) l7)) ∧
        (¬ z8 = (0 : Int) → (Q (none) (iq_uz g6 40 10 ((g 40 10) + 0)) l7)))))) ∧
    ((g 27 a0) = 3 → (iq_P N xs 327 0 [some (iq_r 40), none] [] (iq_uz g 40 3 (a0 + 1)) l (fun r g9 l10 => r = none ∧ (Q (none) g9 l10)))) ∧
    ((g 27 a0) = 4 → (iq_P N xs 323 0 [some (iq_r 40), some (iq_i (g 29 a0)), none] [] (iq_uz g 40 3 (a0 + 1)) l (fun r g11 l12 => ∃ z13, r = some (iq_i z13) ∧ (iq_P N xs 328 0 [some (iq_r 40), some (iq_i z13), some (iq_i a0), some (iq_i 1)] [] g11 l12 (fun r g14 l15 => r = none ∧ (Q (none) g14 l15)))))) ∧
    ((g 27 a0) = 5 → ((0 ≤ a0 ∧ a0 < 30) ∧ (iq_P N xs 329 0 [some (iq_r 40), some (iq_i (g 28 a0)), some (iq_i (g 29 a0))] [] (iq_uz g 40 3 (a0 + 1)) l (fun r g16 l17 => ∃ z18, r = some (iq_i z18) ∧ ((-2147483648 ≤ z18 ∧ z18 ≤ 2147483647) ∧
        (z18 = (0 : Int) → ((0 ≤ a0 ∧ a0 < 30) ∧ (Q (none) (iq_uz g16 40 3 (g16 30 a0)) l17))) ∧
        (¬ z18 = (0 : Int) → (Q (none) (iq_uz g16 40 3 (a0 + 1)) l17))))))) ∧
    ((g 27 a0) = 6 → ((0 ≤ a0 ∧ a0 < 30) ∧ ((-2147483648 ≤ (g 30 a0) ∧ (g 30 a0) ≤ 2147483647 ∧ -2147483648 ≤ (a0 + 1) ∧ (a0 + 1) ≤ 2147483647) ∧
      ((g 30 a0) ≤ (a0 + 1) → (iq_P N xs 328 0 [some (iq_r 40), some (iq_i 0), some (iq_i a0), some (iq_i (g 29 a0))] [] (iq_uz g 40 3 (a0 + 1)) l (fun r g19 l20 => r = none ∧ (Q (none) g19 l20)))) ∧
      ((a0 + 1) < (g 30 a0) → (iq_P N xs 328 0 [some (iq_r 40), some (iq_i 1), some (iq_i a0), some (iq_i (g 29 a0))] [] (iq_uz g 40 3 (a0 + 1)) l (fun r g21 l22 => r = none ∧ (Q (none) g21 l22))))))) ∧
    ((g 27 a0) = 7 → (iq_P N xs 330 0 [some (iq_r 40), none, none] [] (iq_uz g 40 3 (a0 + 1)) l (fun r g23 l24 => r = none ∧ (Q (none) g23 l24)))) ∧ True) ∧
    (((g 27 a0) < 0 ∨ 7 < (g 27 a0)) → (Q (none) (iq_uz (iq_uz g 40 3 (a0 + 1)) 40 4 1) l))))) :
    iq_P N xs 331 0 [some (iq_r 40), some (iq_i a0), none] [] g l Q := iq_w_ok (cuts := []) 35 0 _ _ _ _ H
