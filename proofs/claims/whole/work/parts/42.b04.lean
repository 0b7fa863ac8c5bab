/-! What must hold that a stretch of a method ends well: methods 331 to 346. -/
-- ScaleForge$Life.doStep(I)V at 0
set_option maxRecDepth 20000 in
theorem B331_47 {N : Nat} {xs : Nat → Int32} {Q : iq_T} (a0 : Int) (g : iq_I) (l : iq_J) (H : (0 ≤ a0 ∧ a0 < 30) ∧ ((0 ≤ a0 ∧ a0 < 30) ∧ ((-2147483648 ≤ (g 27 a0) ∧ (g 27 a0) ≤ 2147483647 ∧ (7 : Int) - 0 + 1 = 8) ∧ (
    ((g 27 a0) = 0 → (iq_P N xs 323 0 [some (iq_r 47), some (iq_i (g 29 a0)), none] [] (iq_uz g 47 3 (a0 + 1)) l (fun r g1 l2 => ∃ z3, r = some (iq_i z3) ∧ (Q (none) g1 l2)))) ∧
    ((g 27 a0) = 1 → (iq_P N xs 324 0 [some (iq_r 47), some (iq_i (g 29 a0)), none] [] (iq_uz g 47 3 (a0 + 1)) l (fun r g4 l5 => r = none ∧ (Q (none) g4 l5)))) ∧
    ((g 27 a0) = 2 → (iq_P N xs 325 0 [some (iq_r 44), some (iq_i (g 29 a0))] [] (iq_uz g 47 3 (a0 + 1)) l (fun r g6 l7 => ∃ z8, r = some (iq_i z8) ∧ ((-2147483648 ≤ z8 ∧ z8 ≤ 2147483647) ∧
        (z8 = (0 : Int) → (Q (none) (iq_uz g6 47 10 ((g 47 10) + 1)) l7)) ∧
        (¬ z8 = (0 : Int) → (Q (none) (iq_uz g6 47 10 ((g 47 10) + 0)) l7)))))) ∧
    ((g 27 a0) = 3 → (iq_P N xs 327 0 [some (iq_r 47), none] [] (iq_uz g 47 3 (a0 + 1)) l (fun r g9 l10 => r = none ∧ (Q (none) g9 l10)))) ∧
    ((g 27 a0) = 4 → (iq_P N xs 323 0 [some (iq_r 47), some (iq_i (g 29 a0)), none] [] (iq_uz g 47 3 (a0 + 1)) l (fun r g11 l12 => ∃ z13, r = some (iq_i z13) ∧ (iq_P N xs 328 0 [some (iq_r 47), some (iq_i z13), some (iq_i a0), some (iq_i 1)] [] g11 l12 (fun r g14 l15 => r = none ∧ (Q (none) g14 l15)))))) ∧
    ((g 27 a0) = 5 → ((0 ≤ a0 ∧ a0 < 30) ∧ (iq_P N xs 329 0 [some (iq_r 47), some (iq_i (g 28 a0)), some (iq_i (g 29 a0))] [] (iq_uz g 47 3 (a0 + 1)) l (fun r g16 l17 => ∃ z18, r = some (iq_i z18) ∧ ((-2147483648 ≤ z18 ∧ z18 ≤ 2147483647) ∧
        (z18 = (0 : Int) → ((0 ≤ a0 ∧ a0 < 30) ∧ (Q (none) (iq_uz g16 47 3 (g16 30 a0)) l17))) ∧
        (¬ z18 = (0 : Int) → (Q (none) (iq_uz g16 47 3 (a0 + 1)) l17))))))) ∧
    ((g 27 a0) = 6 → ((0 ≤ a0 ∧ a0 < 30) ∧ ((-2147483648 ≤ (g 30 a0) ∧ (g 30 a0) ≤ 2147483647 ∧ -2147483648 ≤ (a0 + 1) ∧ (a0 + 1) ≤ 2147483647) ∧
      ((g 30 a0) ≤ (a0 + 1) → (iq_P N xs 328 0 [some (iq_r 47), some (iq_i 0), some (iq_i a0), some (iq_i (g 29 a0))] [] (iq_uz g 47 3 (a0 + 1)) l (fun r g19 l20 => r = none ∧ (Q (none) g19 l20)))) ∧
      ((a0 + 1) < (g 30 a0) → (iq_P N xs 328 0 [some (iq_r 47), some (iq_i 1), some (iq_i a0), some (iq_i (g 29 a0))] [] (iq_uz g 47 3 (a0 + 1)) l (fun r g21 l22 => r = none ∧ (Q (none) g21 l22))))))) ∧
    ((g 27 a0) = 7 → (iq_P N xs 330 0 [some (iq_r 47), none, none] [] (iq_uz g 47 3 (a0 + 1)) l (fun r g23 l24 => r = none ∧ (Q (none) g23 l24)))) ∧ True) ∧
    (((g 27 a0) < 0 ∨ 7 < (g 27 a0)) → (Q (none) (iq_uz (iq_uz g 47 3 (a0 + 1)) 47 4 1) l))))) :
    iq_P N xs 331 0 [some (iq_r 47), some (iq_i a0), none] [] g l Q := iq_w_ok (cuts := []) 35 0 _ _ _ _ H

-- ScaleForge$Life.letAllGo()V at 0
set_option maxRecDepth 20000 in
theorem B332_40 {N : Nat} {xs : Nat → Int32} {Q : iq_T} (g : iq_I) (l : iq_J) (H : iq_P N xs 332 5 [some (iq_r 40), some (iq_i (g 40 7)), none] [] g l Q) :
    iq_P N xs 332 0 [some (iq_r 40), none, none] [] g l Q := iq_w_ok (cuts := [5]) 3 0 _ _ _ _ H

-- ScaleForge$Life.letAllGo()V at 5
set_option maxRecDepth 20000 in
theorem B332_p5_40 {N : Nat} {xs : Nat → Int32} {Q : iq_T} (v1 : Int) (d2 : Option iq_V) (g : iq_I) (l : iq_J) (H : (-2147483648 ≤ v1 ∧ v1 ≤ 2147483647) ∧
    (v1 ≤ (0 : Int) → (Q (none) g l)) ∧
    ((0 : Int) < v1 → (iq_P N xs 318 0 [some (iq_r 40)] [] g l (fun r g1 l2 => ∃ z3, r = some (iq_i z3) ∧ (iq_P N xs 118 0 [some (iq_r 26), some (iq_i z3)] [] g1 l2 (fun r g4 l5 => ∃ z6, r = some (iq_i z6) ∧ ((-2147483648 ≤ z6 ∧ z6 ≤ 2147483647) ∧
          (z6 = (0 : Int) → (iq_P N xs 332 5 [some (iq_r 40), some (iq_i (v1 + (-1))), some (iq_i z3)] [] (iq_uz g4 40 7 ((g4 40 7) - 1)) l5 Q)) ∧
          (¬ z6 = (0 : Int) → ((0 ≤ z3 ∧ z3 < 30) ∧ ((-2147483648 ≤ (g4 27 z3) ∧ (g4 27 z3) ≤ 2147483647) ∧
            (¬ (g4 27 z3) = (4 : Int) → (iq_P N xs 332 5 [some (iq_r 40), some (iq_i (v1 + (-1))), some (iq_i z3)] [] (iq_uz g4 40 7 ((g4 40 7) - 1)) l5 Q)) ∧
            ((g4 27 z3) = (4 : Int) → ((0 ≤ z3 ∧ z3 < 30) ∧ (iq_P N xs 320 0 [some (iq_r 40), some (iq_i (g4 29 z3))] [] g4 l5 (fun r g7 l8 => r = none ∧ (iq_P N xs 332 5 [some (iq_r 40), some (iq_i (v1 + (-1))), some (iq_i z3)] [] (iq_uz g7 40 7 ((g7 40 7) - 1)) l8 Q))))))))))))))) :
    iq_P N xs 332 5 [some (iq_r 40), some (iq_i v1), d2] [] g l Q := iq_w_ok (cuts := [5]) 32 5 _ _ _ _ H

-- ScaleForge$Life.letAllGo()V at 0
set_option maxRecDepth 20000 in
theorem B332_47 {N : Nat} {xs : Nat → Int32} {Q : iq_T} (g : iq_I) (l : iq_J) (H : iq_P N xs 332 5 [some (iq_r 47), some (iq_i (g 47 7)), none] [] g l Q) :
    iq_P N xs 332 0 [some (iq_r 47), none, none] [] g l Q := iq_w_ok (cuts := [5]) 3 0 _ _ _ _ H

-- ScaleForge$Life.letAllGo()V at 5
set_option maxRecDepth 20000 in
theorem B332_p5_47 {N : Nat} {xs : Nat → Int32} {Q : iq_T} (v1 : Int) (d2 : Option iq_V) (g : iq_I) (l : iq_J) (H : (-2147483648 ≤ v1 ∧ v1 ≤ 2147483647) ∧
    (v1 ≤ (0 : Int) → (Q (none) g l)) ∧
    ((0 : Int) < v1 → (iq_P N xs 318 0 [some (iq_r 47)] [] g l (fun r g1 l2 => ∃ z3, r = some (iq_i z3) ∧ (iq_P N xs 118 0 [some (iq_r 26), some (iq_i z3)] [] g1 l2 (fun r g4 l5 => ∃ z6, r = some (iq_i z6) ∧ ((-2147483648 ≤ z6 ∧ z6 ≤ 2147483647) ∧
          (z6 = (0 : Int) → (iq_P N xs 332 5 [some (iq_r 47), some (iq_i (v1 + (-1))), some (iq_i z3)] [] (iq_uz g4 47 7 ((g4 47 7) - 1)) l5 Q)) ∧
          (¬ z6 = (0 : Int) → ((0 ≤ z3 ∧ z3 < 30) ∧ ((-2147483648 ≤ (g4 27 z3) ∧ (g4 27 z3) ≤ 2147483647) ∧
            (¬ (g4 27 z3) = (4 : Int) → (iq_P N xs 332 5 [some (iq_r 47), some (iq_i (v1 + (-1))), some (iq_i z3)] [] (iq_uz g4 47 7 ((g4 47 7) - 1)) l5 Q)) ∧
            ((g4 27 z3) = (4 : Int) → ((0 ≤ z3 ∧ z3 < 30) ∧ (iq_P N xs 320 0 [some (iq_r 47), some (iq_i (g4 29 z3))] [] g4 l5 (fun r g7 l8 => r = none ∧ (iq_P N xs 332 5 [some (iq_r 47), some (iq_i (v1 + (-1))), some (iq_i z3)] [] (iq_uz g7 47 7 ((g7 47 7) - 1)) l8 Q))))))))))))))) :
    iq_P N xs 332 5 [some (iq_r 47), some (iq_i v1), d2] [] g l Q := iq_w_ok (cuts := [5]) 32 5 _ _ _ _ H

-- ScaleForge$Life.run(I)V at 0
set_option maxRecDepth 20000 in
theorem B333_40 {N : Nat} {xs : Nat → Int32} {Q : iq_T} (a0 : Int) (g : iq_I) (l : iq_J) (H : iq_P N xs 333 57 [some (iq_r 40), some (iq_i a0), some (iq_i 0)] [] (iq_uz (iq_uz (iq_uz (iq_uz (iq_uz (iq_uz (iq_uz (iq_uz (iq_uz (iq_uz (iq_uz g 40 2 a0) 40 3 0) 40 4 0) 40 7 0) 40 8 1) 40 9 0) 40 10 0) 40 11 0) 40 12 0) 40 13 0) 40 14 0) l Q) :
    iq_P N xs 333 0 [some (iq_r 40), some (iq_i a0), none] [] g l Q := iq_w_ok (cuts := [57]) 35 0 _ _ _ _ H

-- ScaleForge$Life.run(I)V at 57
set_option maxRecDepth 20000 in
theorem B333_p57_40 {N : Nat} {xs : Nat → Int32} {Q : iq_T} (v1 : Int) (v2 : Int) (g : iq_I) (l : iq_J) (H : (-2147483648 ≤ v2 ∧ v2 ≤ 2147483647) ∧
    ((10000 : Int) ≤ v2 → (iq_P N xs 332 0 [some (iq_r 40), none, none] [] g l (fun r g1 l2 => r = none ∧ (Q (none) g1 l2)))) ∧
    (v2 < (10000 : Int) → ((-2147483648 ≤ (g 40 4) ∧ (g 40 4) ≤ 2147483647) ∧
      (¬ (g 40 4) = (0 : Int) → (iq_P N xs 332 0 [some (iq_r 40), none, none] [] g l (fun r g3 l4 => r = none ∧ (Q (none) g3 l4)))) ∧
      ((g 40 4) = (0 : Int) → (iq_P N xs 319 0 [some (iq_r 40), none] [] g l (fun r g5 l6 => ∃ z7, r = some (iq_i z7) ∧ ((-2147483648 ≤ z7 ∧ z7 ≤ 2147483647) ∧
          (z7 = (0 : Int) → (iq_P N xs 322 0 [some (iq_r 40), none] [] g5 l6 (fun r g8 l9 => ∃ z10, r = some (iq_i z10) ∧ ((-2147483648 ≤ z10 ∧ z10 ≤ 2147483647) ∧
              (z10 = (0 : Int) → (iq_P N xs 333 57 [some (iq_r 40), some (iq_i v1), some (iq_i (v2 + 1))] [] g8 l9 Q)) ∧
              (¬ z10 = (0 : Int) → (iq_P N xs 331 0 [some (iq_r 40), some (iq_i (g8 40 3)), none] [] g8 l9 (fun r g11 l12 => r = none ∧ (iq_P N xs 333 57 [some (iq_r 40), some (iq_i v1), some (iq_i (v2 + 1))] [] g11 l12 Q)))))))) ∧
          (¬ z7 = (0 : Int) → (iq_P N xs 321 0 [some (iq_r 40), none] [] g5 l6 (fun r g13 l14 => r = none ∧ (iq_P N xs 333 57 [some (iq_r 40), some (iq_i v1), some (iq_i (v2 + 1))] [] g13 l14 Q))))))))))) :
    iq_P N xs 333 57 [some (iq_r 40), some (iq_i v1), some (iq_i v2)] [] g l Q := iq_w_ok (cuts := [57]) 18 57 _ _ _ _ H

-- ScaleForge$Life.run(I)V at 0
set_option maxRecDepth 20000 in
theorem B333_47 {N : Nat} {xs : Nat → Int32} {Q : iq_T} (a0 : Int) (g : iq_I) (l : iq_J) (H : iq_P N xs 333 57 [some (iq_r 47), some (iq_i a0), some (iq_i 0)] [] (iq_uz (iq_uz (iq_uz (iq_uz (iq_uz (iq_uz (iq_uz (iq_uz (iq_uz (iq_uz (iq_uz g 47 2 a0) 47 3 0) 47 4 0) 47 7 0) 47 8 1) 47 9 0) 47 10 0) 47 11 0) 47 12 0) 47 13 0) 47 14 0) l Q) :
    iq_P N xs 333 0 [some (iq_r 47), some (iq_i a0), none] [] g l Q := iq_w_ok (cuts := [57]) 35 0 _ _ _ _ H

-- ScaleForge$Life.run(I)V at 57
set_option maxRecDepth 20000 in
theorem B333_p57_47 {N : Nat} {xs : Nat → Int32} {Q : iq_T} (v1 : Int) (v2 : Int) (g : iq_I) (l : iq_J) (H : (-2147483648 ≤ v2 ∧ v2 ≤ 2147483647) ∧
    ((10000 : Int) ≤ v2 → (iq_P N xs 332 0 [some (iq_r 47), none, none] [] g l (fun r g1 l2 => r = none ∧ (Q (none) g1 l2)))) ∧
    (v2 < (10000 : Int) → ((-2147483648 ≤ (g 47 4) ∧ (g 47 4) ≤ 2147483647) ∧
      (¬ (g 47 4) = (0 : Int) → (iq_P N xs 332 0 [some (iq_r 47), none, none] [] g l (fun r g3 l4 => r = none ∧ (Q (none) g3 l4)))) ∧
      ((g 47 4) = (0 : Int) → (iq_P N xs 319 0 [some (iq_r 47), none] [] g l (fun r g5 l6 => ∃ z7, r = some (iq_i z7) ∧ ((-2147483648 ≤ z7 ∧ z7 ≤ 2147483647) ∧
          (z7 = (0 : Int) → (iq_P N xs 322 0 [some (iq_r 47), none] [] g5 l6 (fun r g8 l9 => ∃ z10, r = some (iq_i z10) ∧ ((-2147483648 ≤ z10 ∧ z10 ≤ 2147483647) ∧
              (z10 = (0 : Int) → (iq_P N xs 333 57 [some (iq_r 47), some (iq_i v1), some (iq_i (v2 + 1))] [] g8 l9 Q)) ∧
              (¬ z10 = (0 : Int) → (iq_P N xs 331 0 [some (iq_r 47), some (iq_i (g8 47 3)), none] [] g8 l9 (fun r g11 l12 => r = none ∧ (iq_P N xs 333 57 [some (iq_r 47), some (iq_i v1), some (iq_i (v2 + 1))] [] g11 l12 Q)))))))) ∧
          (¬ z7 = (0 : Int) → (iq_P N xs 321 0 [some (iq_r 47), none] [] g5 l6 (fun r g13 l14 => r = none ∧ (iq_P N xs 333 57 [some (iq_r 47), some (iq_i v1), some (iq_i (v2 + 1))] [] g13 l14 Q))))))))))) :
    iq_P N xs 333 57 [some (iq_r 47), some (iq_i v1), some (iq_i v2)] [] g l Q := iq_w_ok (cuts := [57]) 18 57 _ _ _ _ H

-- ScaleForge.live(I)I at 0
set_option maxRecDepth 20000 in
theorem B334_0 {N : Nat} {xs : Nat → Int32} {Q : iq_T} (a0 : Int) (g : iq_I) (l : iq_J) (H : (-2147483648 ≤ a0 ∧ a0 ≤ 2147483647) ∧
    (a0 < (0 : Int) → (iq_P N xs 44 0 [some (iq_r 0), some (iq_i 1)] [] g l (fun r g1 l2 => ∃ z3, r = some (iq_i z3) ∧ (Q (some (iq_i z3)) g1 l2)))) ∧
    ((0 : Int) ≤ a0 → ((-2147483648 ≤ a0 ∧ a0 ≤ 2147483647) ∧
      (a0 ≤ (9999 : Int) → ((-2147483648 ≤ (g 26 5) ∧ (g 26 5) ≤ 2147483647) ∧
        (¬ (g 26 5) = (0 : Int) → (iq_P N xs 333 0 [some (iq_r 40), some (iq_i a0), none] [] g l (fun r g4 l5 => r = none ∧ (iq_P N xs 90 0 [some (iq_r 0), some (iq_i (g4 40 9))] [] g4 l5 (fun r g6 l7 => ∃ z8, r = some (iq_i z8) ∧ (Q (some (iq_i z8)) g6 l7)))))) ∧
        ((g 26 5) = (0 : Int) → (iq_P N xs 44 0 [some (iq_r 0), some (iq_i 6)] [] g l (fun r g9 l10 => ∃ z11, r = some (iq_i z11) ∧ (Q (some (iq_i z11)) g9 l10)))))) ∧
      ((9999 : Int) < a0 → (iq_P N xs 44 0 [some (iq_r 0), some (iq_i 1)] [] g l (fun r g12 l13 => ∃ z14, r = some (iq_i z14) ∧ (Q (some (iq_i z14)) g12 l13))))))) :
    iq_P N xs 334 0 [some (iq_r 0), some (iq_i a0)] [] g l Q := iq_w_ok (cuts := []) 19 0 _ _ _ _ H

-- ScaleForgeModel.ranIf(IZ)Z at 0
set_option maxRecDepth 20000 in
theorem B335_77 {N : Nat} {xs : Nat → Int32} {Q : iq_T} (a0 : Int) (a1 : Int) (g : iq_I) (l : iq_J) (H : (-2147483648 ≤ a1 ∧ a1 ≤ 2147483647) ∧
    (a1 = (0 : Int) → ((a1 = 0 ∨ a1 = 1) ∧ Q (some (iq_i a1)) g l)) ∧
    (¬ a1 = (0 : Int) → ((0 ≤ a0 ∧ a0 < 5) ∧ ((0 ≤ a0 ∧ a0 < 5) ∧ ((a1 = 0 ∨ a1 = 1) ∧ Q (some (iq_i a1)) (iq_uz g 101 a0 ((g 101 a0) + 1)) l))))) :
    iq_P N xs 335 0 [some (iq_r 77), some (iq_i a0), some (iq_i a1)] [] g l Q := iq_w_ok (cuts := []) 12 0 _ _ _ _ H

-- ScaleForgeModel.roots(I)Z at 0
set_option maxRecDepth 20000 in
theorem B336_77 {N : Nat} {xs : Nat → Int32} {Q : iq_T} (a0 : Int) (g : iq_I) (l : iq_J) (H : iq_P N xs 158 0 [some (iq_r 77), some (iq_i a0)] [] g l (fun r g1 l2 => ∃ z3, r = some (iq_i z3) ∧ ((-2147483648 ≤ z3 ∧ z3 ≤ 2147483647) ∧
      (z3 = (0 : Int) → (Q (some (iq_i 0)) g1 l2)) ∧
      (¬ z3 = (0 : Int) → ((-2147483648 ≤ (g1 78 5) ∧ (g1 78 5) ≤ 2147483647 ∧ -2147483648 ≤ a0 ∧ a0 ≤ 2147483647) ∧
        (¬ (g1 78 5) = a0 → (Q (some (iq_i 1)) (iq_uz g1 78 5 a0) l2)) ∧
        ((g1 78 5) = a0 → (Q (some (iq_i 0)) g1 l2))))))) :
    iq_P N xs 336 0 [some (iq_r 77), some (iq_i a0)] [] g l Q := iq_w_ok (cuts := []) 17 0 _ _ _ _ H

-- ScaleForgeModel.holdsOn(I)Z at 0
set_option maxRecDepth 20000 in
theorem B337_77 {N : Nat} {xs : Nat → Int32} {Q : iq_T} (a0 : Int) (g : iq_I) (l : iq_J) (H : iq_P N xs 180 0 [some (iq_r 77), some (iq_i a0), none] [] g l (fun r g1 l2 => ∃ z3, r = some (iq_i z3) ∧ (iq_P N xs 335 0 [some (iq_r 77), some (iq_i 1), some (iq_i z3)] [] g1 l2 (fun r g4 l5 => ∃ z6, r = some (iq_i z6) ∧ ((-2147483648 ≤ z6 ∧ z6 ≤ 2147483647) ∧
        (¬ z6 = (0 : Int) → ((0 ≤ (g4 77 45) ∧ (g4 77 45) < 4) ∧ (Q (some (iq_i 1)) (iq_uz (iq_uz g4 103 (g4 77 45) a0) 77 45 ((g4 77 45) + 1)) l5))) ∧
        (z6 = (0 : Int) → (Q (some (iq_i 0)) g4 l5))))))) :
    iq_P N xs 337 0 [some (iq_r 77), some (iq_i a0)] [] g l Q := iq_w_ok (cuts := []) 21 0 _ _ _ _ H

-- ScaleForgeModel.draw(I)I at 0
set_option maxRecDepth 20000 in
theorem B338_77 {N : Nat} {xs : Nat → Int32} {Q : iq_T} (a0 : Int) (g : iq_I) (l : iq_J) (H : (-2147483648 < (((g 77 43) * 3293) + 11527) ∧ (((g 77 43) * 3293) + 11527) ≤ 2147483647 ∧ -2147483648 ≤ (65536 : Int) ∧ (65536 : Int) ≤ 2147483647 ∧ ¬ (65536 : Int) = 0) ∧ ((-2147483648 < (Int.tmod (((g 77 43) * 3293) + 11527) (65536 : Int)) ∧ (Int.tmod (((g 77 43) * 3293) + 11527) (65536 : Int)) ≤ 2147483647 ∧ -2147483648 ≤ (8 : Int) ∧ (8 : Int) ≤ 2147483647 ∧ ¬ (8 : Int) = 0) ∧ ((-2147483648 < (Int.tdiv (Int.tmod (((g 77 43) * 3293) + 11527) (65536 : Int)) (8 : Int)) ∧ (Int.tdiv (Int.tmod (((g 77 43) * 3293) + 11527) (65536 : Int)) (8 : Int)) ≤ 2147483647 ∧ -2147483648 ≤ a0 ∧ a0 ≤ 2147483647 ∧ ¬ a0 = 0) ∧ (Q (some (iq_i (Int.tmod (Int.tdiv (Int.tmod (((g 77 43) * 3293) + 11527) (65536 : Int)) (8 : Int)) a0))) (iq_uz g 77 43 (Int.tmod (((g 77 43) * 3293) + 11527) (65536 : Int))) l)))) :
    iq_P N xs 338 0 [some (iq_r 77), some (iq_i a0)] [] g l Q := iq_w_ok (cuts := []) 17 0 _ _ _ _ H

-- ScaleForgeModel.doesAny()Z at 0
set_option maxRecDepth 20000 in
theorem B339_77 {N : Nat} {xs : Nat → Int32} {Q : iq_T} (g : iq_I) (l : iq_J) (H : iq_P N xs 338 0 [some (iq_r 77), some (iq_i (g 78 1))] [] g l (fun r g1 l2 => ∃ z3, r = some (iq_i z3) ∧ (iq_P N xs 338 0 [some (iq_r 77), some (iq_i 16)] [] g1 l2 (fun r g4 l5 => ∃ z6, r = some (iq_i z6) ∧ ((-2147483648 ≤ z6 ∧ z6 ≤ 2147483647 ∧ -2147483648 ≤ (g4 78 0) ∧ (g4 78 0) ≤ 2147483647) ∧
        ((g4 78 0) ≤ z6 → (iq_P N xs 180 0 [some (iq_r 77), some (iq_i z3), none] [] g4 l5 (fun r g7 l8 => ∃ z9, r = some (iq_i z9) ∧ (iq_P N xs 335 0 [some (iq_r 77), some (iq_i 1), some (iq_i z9)] [] g7 l8 (fun r g10 l11 => ∃ z12, r = some (iq_i z12) ∧ ((z12 = 0 ∨ z12 = 1) ∧ Q (some (iq_i z12)) g10 l11)))))) ∧
        (z6 < (g4 78 0) → (iq_P N xs 184 0 [some (iq_r 77), some (iq_i z3)] [] g4 l5 (fun r g13 l14 => ∃ z15, r = some (iq_i z15) ∧ (iq_P N xs 335 0 [some (iq_r 77), some (iq_i 2), some (iq_i z15)] [] g13 l14 (fun r g16 l17 => ∃ z18, r = some (iq_i z18) ∧ ((z18 = 0 ∨ z18 = 1) ∧ Q (some (iq_i z18)) g16 l17))))))))))) :
    iq_P N xs 339 0 [some (iq_r 77), none] [] g l Q := iq_w_ok (cuts := []) 23 0 _ _ _ _ H

-- ScaleForgeModel.does(I)Z at 0
set_option maxRecDepth 20000 in
theorem B340_77 {N : Nat} {xs : Nat → Int32} {Q : iq_T} (a0 : Int) (g : iq_I) (l : iq_J) (H : (0 ≤ (a0 + 1) ∧ (a0 + 1) < 2392) ∧ ((0 ≤ a0 ∧ a0 < 2392) ∧ ((-2147483648 ≤ (g 78 a0) ∧ (g 78 a0) ≤ 2147483647 ∧ (14 : Int) - 5 + 1 = 10) ∧ (
    ((g 78 a0) = 5 → (iq_P N xs 336 0 [some (iq_r 77), some (iq_i (g 78 (a0 + 1)))] [] g l (fun r g1 l2 => ∃ z3, r = some (iq_i z3) ∧ ((z3 = 0 ∨ z3 = 1) ∧ Q (some (iq_i z3)) g1 l2)))) ∧
    ((g 78 a0) = 6 → (Q (some (iq_i 1)) g l)) ∧
    ((g 78 a0) = 7 → (Q (some (iq_i 1)) g l)) ∧
    ((g 78 a0) = 8 → (Q (some (iq_i 1)) g l)) ∧
    ((g 78 a0) = 9 → (Q (some (iq_i 1)) g l)) ∧
    ((g 78 a0) = 10 → (iq_P N xs 180 0 [some (iq_r 77), some (iq_i (g 78 (a0 + 1))), none] [] g l (fun r g4 l5 => ∃ z6, r = some (iq_i z6) ∧ (iq_P N xs 335 0 [some (iq_r 77), some (iq_i 1), some (iq_i z6)] [] g4 l5 (fun r g7 l8 => ∃ z9, r = some (iq_i z9) ∧ ((z9 = 0 ∨ z9 = 1) ∧ Q (some (iq_i z9)) g7 l8)))))) ∧
    ((g 78 a0) = 11 → (iq_P N xs 184 0 [some (iq_r 77), some (iq_i (g 78 (a0 + 1)))] [] g l (fun r g10 l11 => ∃ z12, r = some (iq_i z12) ∧ (iq_P N xs 335 0 [some (iq_r 77), some (iq_i 2), some (iq_i z12)] [] g10 l11 (fun r g13 l14 => ∃ z15, r = some (iq_i z15) ∧ ((z15 = 0 ∨ z15 = 1) ∧ Q (some (iq_i z15)) g13 l14)))))) ∧
    ((g 78 a0) = 12 → (iq_P N xs 337 0 [some (iq_r 77), some (iq_i (g 78 (a0 + 1)))] [] g l (fun r g16 l17 => ∃ z18, r = some (iq_i z18) ∧ ((z18 = 0 ∨ z18 = 1) ∧ Q (some (iq_i z18)) g16 l17)))) ∧
    ((g 78 a0) = 13 → (Q (some (iq_i 1)) g l)) ∧
    ((g 78 a0) = 14 → (iq_P N xs 339 0 [some (iq_r 77), none] [] g l (fun r g19 l20 => ∃ z21, r = some (iq_i z21) ∧ ((z21 = 0 ∨ z21 = 1) ∧ Q (some (iq_i z21)) g19 l20)))) ∧ True) ∧
    (((g 78 a0) < 5 ∨ 14 < (g 78 a0)) → (Q (some (iq_i 1)) g l))))) :
    iq_P N xs 340 0 [some (iq_r 77), some (iq_i a0), none] [] g l Q := iq_w_ok (cuts := []) 19 0 _ _ _ _ H

-- ScaleForgeModel.letsGo()V at 0
set_option maxRecDepth 20000 in
theorem B341_77 {N : Nat} {xs : Nat → Int32} {Q : iq_T} (g : iq_I) (l : iq_J) (H : (0 ≤ ((g 77 45) - 1) ∧ ((g 77 45) - 1) < 4) ∧ (iq_P N xs 184 0 [some (iq_r 77), some (iq_i (g 103 ((g 77 45) - 1)))] [] (iq_uz g 77 45 ((g 77 45) - 1)) l (fun r g1 l2 => ∃ z3, r = some (iq_i z3) ∧ ((-2147483648 ≤ (g1 77 46) ∧ (g1 77 46) ≤ 2147483647) ∧
      (¬ (g1 77 46) = (60 : Int) → ((0 ≤ (g1 77 46) ∧ (g1 77 46) < 60) ∧ (iq_P N xs 341 56 [some (iq_r 77), some (iq_i (g 103 ((g 77 45) - 1)))] [] (iq_uz (iq_uz g1 101 3 ((g1 101 3) + 1)) 104 (g1 77 46) (g 103 ((g 77 45) - 1))) l2 Q))) ∧
      ((g1 77 46) = (60 : Int) → (Q (none) (iq_uz g1 101 3 ((g1 101 3) + 1)) l2)))))) :
    iq_P N xs 341 0 [some (iq_r 77), none] [] g l Q := iq_w_ok (cuts := [56]) 34 0 _ _ _ _ H

-- ScaleForgeModel.letsGo()V at 56
set_option maxRecDepth 20000 in
theorem B341_p56_77 {N : Nat} {xs : Nat → Int32} {Q : iq_T} (v1 : Int) (g : iq_I) (l : iq_J) (H : Q (none) (iq_uz g 77 46 ((g 77 46) + 1)) l) :
    iq_P N xs 341 56 [some (iq_r 77), some (iq_i v1)] [] g l Q := iq_w_ok (cuts := [56]) 7 56 _ _ _ _ H

-- ScaleForgeModel.behindEnds(I)I at 0
set_option maxRecDepth 20000 in
theorem B342_77 {N : Nat} {xs : Nat → Int32} {Q : iq_T} (a0 : Int) (g : iq_I) (l : iq_J) (H : iq_P N xs 342 2 [some (iq_r 77), some (iq_i a0), some (iq_i a0), none, none] [] g l Q) :
    iq_P N xs 342 0 [some (iq_r 77), some (iq_i a0), none, none, none] [] g l Q := iq_w_ok (cuts := [2, 62, 75, 133]) 2 0 _ _ _ _ H

-- ScaleForgeModel.behindEnds(I)I at 2
set_option maxRecDepth 20000 in
theorem B342_p2_77 {N : Nat} {xs : Nat → Int32} {Q : iq_T} (v1 : Int) (v2 : Int) (d3 : Option iq_V) (d4 : Option iq_V) (g : iq_I) (l : iq_J) (H : (-2147483648 ≤ v2 ∧ v2 ≤ 2147483647 ∧ -2147483648 ≤ (g 78 10) ∧ (g 78 10) ≤ 2147483647) ∧
    ((g 78 10) ≤ v2 → (Q (some (iq_i v2)) g l)) ∧
    (v2 < (g 78 10) → ((0 ≤ (92 + (6 * v2)) ∧ (92 + (6 * v2)) < 2392) ∧ ((-2147483648 ≤ (g 78 (92 + (6 * v2))) ∧ (g 78 (92 + (6 * v2))) ≤ 2147483647) ∧
      (¬ (g 78 (92 + (6 * v2))) = (17 : Int) → (Q (some (iq_i v2)) g l)) ∧
      ((g 78 (92 + (6 * v2))) = (17 : Int) → ((0 ≤ ((92 + (6 * v2)) + 4) ∧ ((92 + (6 * v2)) + 4) < 2392) ∧ ((0 ≤ (92 + (6 * (g 78 ((92 + (6 * v2)) + 4)))) ∧ (92 + (6 * (g 78 ((92 + (6 * v2)) + 4)))) < 2392) ∧ ((-2147483648 ≤ (g 78 (92 + (6 * (g 78 ((92 + (6 * v2)) + 4))))) ∧ (g 78 (92 + (6 * (g 78 ((92 + (6 * v2)) + 4))))) ≤ 2147483647) ∧
        (¬ (g 78 (92 + (6 * (g 78 ((92 + (6 * v2)) + 4))))) = (16 : Int) → (iq_P N xs 342 75 [some (iq_r 77), some (iq_i v1), some (iq_i v2), some (iq_i (g 78 ((92 + (6 * v2)) + 4))), (iq_nv d4)] [] g l Q)) ∧
        ((g 78 (92 + (6 * (g 78 ((92 + (6 * v2)) + 4))))) = (16 : Int) → (iq_P N xs 342 62 [some (iq_r 77), some (iq_i v1), some (iq_i v2), some (iq_i (g 78 ((92 + (6 * v2)) + 4))), (iq_nv d4)] [] g l Q)))))))))) :
    iq_P N xs 342 2 [some (iq_r 77), some (iq_i v1), some (iq_i v2), d3, d4] [] g l Q := iq_w_ok (cuts := [2, 62, 75, 133]) 37 2 _ _ _ _ H

-- ScaleForgeModel.behindEnds(I)I at 62
set_option maxRecDepth 20000 in
theorem B342_p62_77 {N : Nat} {xs : Nat → Int32} {Q : iq_T} (v1 : Int) (v2 : Int) (v3 : Int) (d4 : Option iq_V) (g : iq_I) (l : iq_J) (H : (0 ≤ v3 ∧ v3 < 80) ∧ ((-2147483648 ≤ (g 100 v3) ∧ (g 100 v3) ≤ 2147483647) ∧
    ((g 100 v3) ≤ (0 : Int) → (iq_P N xs 342 75 [some (iq_r 77), some (iq_i v1), some (iq_i v2), some (iq_i v3), (iq_nv d4)] [] g l Q)) ∧
    ((0 : Int) < (g 100 v3) → ((0 ≤ v3 ∧ v3 < 80) ∧ ((0 ≤ v3 ∧ v3 < 80) ∧ ((0 ≤ (92 + (6 * v3)) ∧ (92 + (6 * v3)) < 2392) ∧ ((-2147483648 ≤ (g 78 (92 + (6 * v3))) ∧ (g 78 (92 + (6 * v3))) ≤ 2147483647) ∧
        (¬ (g 78 (92 + (6 * v3))) = (12 : Int) → (iq_P N xs 342 133 [some (iq_r 77), some (iq_i v1), some (iq_i (v3 + 1)), some (iq_i v3), some (iq_i 1)] [] (iq_uz g 100 v3 ((g 100 v3) - 1)) l Q)) ∧
        ((g 78 (92 + (6 * v3))) = (12 : Int) → (iq_P N xs 341 0 [some (iq_r 77), none] [] (iq_uz g 100 v3 ((g 100 v3) - 1)) l (fun r g1 l2 => r = none ∧ (iq_P N xs 342 133 [some (iq_r 77), some (iq_i v1), some (iq_i (v3 + 1)), some (iq_i v3), some (iq_i 1)] [] g1 l2 Q))))))))))) :
    iq_P N xs 342 62 [some (iq_r 77), some (iq_i v1), some (iq_i v2), some (iq_i v3), d4] [] g l Q := iq_w_ok (cuts := [2, 62, 75, 133]) 38 62 _ _ _ _ H

-- ScaleForgeModel.behindEnds(I)I at 75
set_option maxRecDepth 20000 in
theorem B342_p75_77 {N : Nat} {xs : Nat → Int32} {Q : iq_T} (v1 : Int) (v2 : Int) (v3 : Int) (d4 : Option iq_V) (g : iq_I) (l : iq_J) (H : (0 ≤ v3 ∧ v3 < 80) ∧ ((0 ≤ v3 ∧ v3 < 80) ∧ ((0 ≤ (92 + (6 * v3)) ∧ (92 + (6 * v3)) < 2392) ∧ ((-2147483648 ≤ (g 78 (92 + (6 * v3))) ∧ (g 78 (92 + (6 * v3))) ≤ 2147483647) ∧
      (¬ (g 78 (92 + (6 * v3))) = (12 : Int) → (iq_P N xs 342 133 [some (iq_r 77), some (iq_i v1), some (iq_i (v2 + 1)), some (iq_i v3), some (iq_i 0)] [] (iq_uz g 100 v3 ((g 100 v3) - 0)) l Q)) ∧
      ((g 78 (92 + (6 * v3))) = (12 : Int) → (iq_P N xs 341 0 [some (iq_r 77), none] [] (iq_uz g 100 v3 ((g 100 v3) - 0)) l (fun r g1 l2 => r = none ∧ (iq_P N xs 342 133 [some (iq_r 77), some (iq_i v1), some (iq_i (v2 + 1)), some (iq_i v3), some (iq_i 0)] [] g1 l2 Q)))))))) :
    iq_P N xs 342 75 [some (iq_r 77), some (iq_i v1), some (iq_i v2), some (iq_i v3), d4] [] g l Q := iq_w_ok (cuts := [2, 62, 75, 133]) 30 75 _ _ _ _ H

-- ScaleForgeModel.behindEnds(I)I at 133
set_option maxRecDepth 20000 in
theorem B342_p133_77 {N : Nat} {xs : Nat → Int32} {Q : iq_T} (v1 : Int) (v2 : Int) (v3 : Int) (v4 : Int) (g : iq_I) (l : iq_J) (H : iq_P N xs 342 2 [some (iq_r 77), some (iq_i v1), some (iq_i v2), some (iq_i v3), some (iq_i v4)] [] g l Q) :
    iq_P N xs 342 133 [some (iq_r 77), some (iq_i v1), some (iq_i v2), some (iq_i v3), some (iq_i v4)] [] g l Q := iq_w_ok (cuts := [2, 62, 75, 133]) 1 133 _ _ _ _ H

-- ScaleForgeModel.holds(I)Z at 0
set_option maxRecDepth 20000 in
theorem B343_77 {N : Nat} {xs : Nat → Int32} {Q : iq_T} (a0 : Int) (g : iq_I) (l : iq_J) (H : (0 ≤ a0 ∧ a0 < 2392) ∧ ((0 ≤ (a0 + 1) ∧ (a0 + 1) < 2392) ∧ ((-2147483648 ≤ ((g 78 a0) - 1500) ∧ ((g 78 a0) - 1500) ≤ 2147483647) ∧
    (¬ ((g 78 a0) - 1500) = (9 : Int) → ((-2147483648 ≤ ((g 78 a0) - 1500) ∧ ((g 78 a0) - 1500) ≤ 2147483647) ∧
      (¬ ((g 78 a0) - 1500) = (19 : Int) → (iq_P N xs 194 0 [some (iq_r 77)] [] g l (fun r g1 l2 => ∃ z3, r = some (iq_i z3) ∧ ((0 ≤ (a0 + 5) ∧ (a0 + 5) < 2392) ∧ ((-2147483648 ≤ (g1 78 (a0 + 5)) ∧ (g1 78 (a0 + 5)) ≤ 2147483647) ∧
          (¬ (g1 78 (a0 + 5)) = (60 : Int) → ((0 ≤ (a0 + 5) ∧ (a0 + 5) < 2392) ∧ ((-2147483648 ≤ (g1 78 (a0 + 5)) ∧ (g1 78 (a0 + 5)) ≤ 2147483647) ∧
            (¬ (g1 78 (a0 + 5)) = (62 : Int) → (iq_P N xs 343 157 [some (iq_r 77), some (iq_i a0), some (iq_i ((g 78 a0) - 1500)), some (iq_i (g 78 (a0 + 1))), some (iq_i z3)] [] g1 l2 Q)) ∧
            ((g1 78 (a0 + 5)) = (62 : Int) → (iq_P N xs 343 136 [some (iq_r 77), some (iq_i a0), some (iq_i ((g 78 a0) - 1500)), some (iq_i (g 78 (a0 + 1))), some (iq_i z3)] [] g1 l2 Q))))) ∧
          ((g1 78 (a0 + 5)) = (60 : Int) → ((0 ≤ (a0 + 2) ∧ (a0 + 2) < 2392) ∧ ((-2147483648 ≤ z3 ∧ z3 ≤ 2147483647 ∧ -2147483648 ≤ (g1 78 (a0 + 2)) ∧ (g1 78 (a0 + 2)) ≤ 2147483647) ∧
            ((g1 78 (a0 + 2)) ≤ z3 → (iq_P N xs 343 119 [some (iq_r 77), some (iq_i a0), some (iq_i ((g 78 a0) - 1500)), some (iq_i (g 78 (a0 + 1))), some (iq_i z3)] [] g1 l2 Q)) ∧
            (z3 < (g1 78 (a0 + 2)) → (iq_P N xs 343 115 [some (iq_r 77), some (iq_i a0), some (iq_i ((g 78 a0) - 1500)), some (iq_i (g 78 (a0 + 1))), some (iq_i z3)] [] g1 l2 Q)))))))))) ∧
      (((g 78 a0) - 1500) = (19 : Int) → (iq_P N xs 114 0 [some (iq_r 77)] [] g l (fun r g4 l5 => r = none ∧ (iq_P N xs 158 0 [some (iq_r 77), some (iq_i (g 78 (a0 + 1)))] [] g4 l5 (fun r g6 l7 => ∃ z8, r = some (iq_i z8) ∧ ((-2147483648 ≤ z8 ∧ z8 ≤ 2147483647) ∧
            (z8 = (0 : Int) → (Q (some (iq_i 0)) g6 l7)) ∧
            (¬ z8 = (0 : Int) → ((0 ≤ (g 78 (a0 + 1)) ∧ (g 78 (a0 + 1)) < 60) ∧ ((-2147483648 ≤ (g6 87 (g 78 (a0 + 1))) ∧ (g6 87 (g 78 (a0 + 1))) ≤ 2147483647) ∧
              ((g6 87 (g 78 (a0 + 1))) = (-1 : Int) → (Q (some (iq_i 0)) g6 l7)) ∧
              (¬ (g6 87 (g 78 (a0 + 1))) = (-1 : Int) → (Q (some (iq_i 1)) g6 l7))))))))))))) ∧
    (((g 78 a0) - 1500) = (9 : Int) → (iq_P N xs 158 0 [some (iq_r 77), some (iq_i (g 78 (a0 + 1)))] [] g l (fun r g9 l10 => ∃ z11, r = some (iq_i z11) ∧ ((-2147483648 ≤ z11 ∧ z11 ≤ 2147483647) ∧
        (z11 = (0 : Int) → (Q (some (iq_i 0)) g9 l10)) ∧
        (¬ z11 = (0 : Int) → (iq_P N xs 143 0 [some (iq_r 77), some (iq_i (g 78 (a0 + 1)))] [] g9 l10 (fun r g12 l13 => ∃ z14, r = some (iq_i z14) ∧ ((-2147483648 ≤ z14 ∧ z14 ≤ 2147483647) ∧
            (¬ z14 = (1 : Int) → (Q (some (iq_i 0)) g12 l13)) ∧
            (z14 = (1 : Int) → (Q (some (iq_i 1)) g12 l13))))))))))))) :
    iq_P N xs 343 0 [some (iq_r 77), some (iq_i a0), none, none, none] [] g l Q := iq_w_ok (cuts := [115, 119, 136, 157]) 39 0 _ _ _ _ H

-- ScaleForgeModel.holds(I)Z at 115
set_option maxRecDepth 20000 in
theorem B343_p115_77 {N : Nat} {xs : Nat → Int32} {Q : iq_T} (v1 : Int) (v2 : Int) (v3 : Int) (v4 : Int) (g : iq_I) (l : iq_J) (H : Q (some (iq_i 1)) g l) :
    iq_P N xs 343 115 [some (iq_r 77), some (iq_i v1), some (iq_i v2), some (iq_i v3), some (iq_i v4)] [] g l Q := iq_w_ok (cuts := [115, 119, 136, 157]) 3 115 _ _ _ _ H

-- ScaleForgeModel.holds(I)Z at 119
set_option maxRecDepth 20000 in
theorem B343_p119_77 {N : Nat} {xs : Nat → Int32} {Q : iq_T} (v1 : Int) (v2 : Int) (v3 : Int) (v4 : Int) (g : iq_I) (l : iq_J) (H : Q (some (iq_i 0)) g l) :
    iq_P N xs 343 119 [some (iq_r 77), some (iq_i v1), some (iq_i v2), some (iq_i v3), some (iq_i v4)] [] g l Q := iq_w_ok (cuts := [115, 119, 136, 157]) 3 119 _ _ _ _ H

-- ScaleForgeModel.holds(I)Z at 136
set_option maxRecDepth 20000 in
theorem B343_p136_77 {N : Nat} {xs : Nat → Int32} {Q : iq_T} (v1 : Int) (v2 : Int) (v3 : Int) (v4 : Int) (g : iq_I) (l : iq_J) (H : (0 ≤ (v1 + 2) ∧ (v1 + 2) < 2392) ∧ ((-2147483648 ≤ v4 ∧ v4 ≤ 2147483647 ∧ -2147483648 ≤ (g 78 (v1 + 2)) ∧ (g 78 (v1 + 2)) ≤ 2147483647) ∧
    (v4 ≤ (g 78 (v1 + 2)) → (Q (some (iq_i 0)) g l)) ∧
    ((g 78 (v1 + 2)) < v4 → (Q (some (iq_i 1)) g l)))) :
    iq_P N xs 343 136 [some (iq_r 77), some (iq_i v1), some (iq_i v2), some (iq_i v3), some (iq_i v4)] [] g l Q := iq_w_ok (cuts := [115, 119, 136, 157]) 11 136 _ _ _ _ H

-- ScaleForgeModel.holds(I)Z at 157
set_option maxRecDepth 20000 in
theorem B343_p157_77 {N : Nat} {xs : Nat → Int32} {Q : iq_T} (v1 : Int) (v2 : Int) (v3 : Int) (v4 : Int) (g : iq_I) (l : iq_J) (H : (0 ≤ (v1 + 2) ∧ (v1 + 2) < 2392) ∧ ((-2147483648 ≤ v4 ∧ v4 ≤ 2147483647 ∧ -2147483648 ≤ (g 78 (v1 + 2)) ∧ (g 78 (v1 + 2)) ≤ 2147483647) ∧
    (¬ v4 = (g 78 (v1 + 2)) → (Q (some (iq_i 0)) g l)) ∧
    (v4 = (g 78 (v1 + 2)) → (Q (some (iq_i 1)) g l)))) :
    iq_P N xs 343 157 [some (iq_r 77), some (iq_i v1), some (iq_i v2), some (iq_i v3), some (iq_i v4)] [] g l Q := iq_w_ok (cuts := [115, 119, 136, 157]) 11 157 _ _ _ _ H

-- ScaleForgeModel.behind(IZ)I at 0
set_option maxRecDepth 20000 in
theorem B344_77 {N : Nat} {xs : Nat → Int32} {Q : iq_T} (a0 : Int) (a1 : Int) (g : iq_I) (l : iq_J) (H : (0 ≤ (92 + (6 * a0)) ∧ (92 + (6 * a0)) < 2392) ∧ ((-2147483648 ≤ (g 78 (92 + (6 * a0))) ∧ (g 78 (92 + (6 * a0))) ≤ 2147483647) ∧
    (¬ (g 78 (92 + (6 * a0))) = (13 : Int) → ((0 ≤ (92 + (6 * a0)) ∧ (92 + (6 * a0)) < 2392) ∧ ((-2147483648 ≤ (g 78 (92 + (6 * a0))) ∧ (g 78 (92 + (6 * a0))) ≤ 2147483647) ∧
      (¬ (g 78 (92 + (6 * a0))) = (12 : Int) → ((0 ≤ (92 + (6 * a0)) ∧ (92 + (6 * a0)) < 2392) ∧ ((-2147483648 ≤ (g 78 (92 + (6 * a0))) ∧ (g 78 (92 + (6 * a0))) ≤ 2147483647) ∧
        ((g 78 (92 + (6 * a0))) < (1500 : Int) → (iq_P N xs 342 0 [some (iq_r 77), some (iq_i (a0 + 1)), none, none, none] [] g l (fun r g1 l2 => ∃ z3, r = some (iq_i z3) ∧ (Q (some (iq_i z3)) g1 l2)))) ∧
        ((1500 : Int) ≤ (g 78 (92 + (6 * a0))) → (iq_P N xs 343 0 [some (iq_r 77), some (iq_i (92 + (6 * a0))), none, none, none] [] g l (fun r g4 l5 => ∃ z6, r = some (iq_i z6) ∧ ((-2147483648 ≤ z6 ∧ z6 ≤ 2147483647) ∧
            (¬ z6 = (0 : Int) → (iq_P N xs 342 0 [some (iq_r 77), some (iq_i (a0 + 1)), none, none, none] [] g4 l5 (fun r g7 l8 => ∃ z9, r = some (iq_i z9) ∧ (Q (some (iq_i z9)) g7 l8)))) ∧
            (z6 = (0 : Int) → ((0 ≤ ((92 + (6 * a0)) + 4) ∧ ((92 + (6 * a0)) + 4) < 2392) ∧ (iq_P N xs 342 0 [some (iq_r 77), some (iq_i ((g4 78 ((92 + (6 * a0)) + 4)) + 1)), none, none, none] [] g4 l5 (fun r g10 l11 => ∃ z12, r = some (iq_i z12) ∧ (Q (some (iq_i z12)) g10 l11)))))))))))) ∧
      ((g 78 (92 + (6 * a0))) = (12 : Int) → ((-2147483648 ≤ a1 ∧ a1 ≤ 2147483647) ∧
        (¬ a1 = (0 : Int) → (iq_P N xs 342 0 [some (iq_r 77), some (iq_i (a0 + 1)), none, none, none] [] g l (fun r g13 l14 => ∃ z15, r = some (iq_i z15) ∧ (Q (some (iq_i z15)) g13 l14)))) ∧
        (a1 = (0 : Int) → ((0 ≤ ((92 + (6 * a0)) + 4) ∧ ((92 + (6 * a0)) + 4) < 2392) ∧ (iq_P N xs 342 0 [some (iq_r 77), some (iq_i ((g 78 ((92 + (6 * a0)) + 4)) + 1)), none, none, none] [] g l (fun r g16 l17 => ∃ z18, r = some (iq_i z18) ∧ (Q (some (iq_i z18)) g16 l17)))))))))) ∧
    ((g 78 (92 + (6 * a0))) = (13 : Int) → ((0 ≤ ((92 + (6 * a0)) + 4) ∧ ((92 + (6 * a0)) + 4) < 2392) ∧ ((-2147483648 ≤ (g 78 ((92 + (6 * a0)) + 4)) ∧ (g 78 ((92 + (6 * a0)) + 4)) ≤ 2147483647) ∧
      (¬ (g 78 ((92 + (6 * a0)) + 4)) = (-1 : Int) → ((0 ≤ ((92 + (6 * a0)) + 4) ∧ ((92 + (6 * a0)) + 4) < 2392) ∧ ((0 ≤ ((92 + (6 * (g 78 ((92 + (6 * a0)) + 4)))) + 4) ∧ ((92 + (6 * (g 78 ((92 + (6 * a0)) + 4)))) + 4) < 2392) ∧ (iq_P N xs 342 0 [some (iq_r 77), some (iq_i (g 78 ((92 + (6 * (g 78 ((92 + (6 * a0)) + 4)))) + 4))), none, none, none] [] g l (fun r g19 l20 => ∃ z21, r = some (iq_i z21) ∧ (Q (some (iq_i z21)) g19 l20)))))) ∧
      ((g 78 ((92 + (6 * a0)) + 4)) = (-1 : Int) → (Q (some (iq_i (g 78 10))) g l))))))) :
    iq_P N xs 344 0 [some (iq_r 77), some (iq_i a0), some (iq_i a1), none, none] [] g l Q := iq_w_ok (cuts := []) 45 0 _ _ _ _ H

-- ScaleForgeModel.lives(I)V at 0
set_option maxRecDepth 20000 in
theorem B345_77 {N : Nat} {xs : Nat → Int32} {Q : iq_T} (a0 : Int) (g : iq_I) (l : iq_J) (H : iq_P N xs 345 22 [some (iq_r 77), some (iq_i a0), some (iq_i 0), none, none] [] (iq_uz (iq_uz (iq_uz (iq_uz g 77 43 a0) 77 44 0) 77 45 0) 77 46 0) l Q) :
    iq_P N xs 345 0 [some (iq_r 77), some (iq_i a0), none, none, none] [] g l Q := iq_w_ok (cuts := [22, 42, 121, 174]) 14 0 _ _ _ _ H

-- ScaleForgeModel.lives(I)V at 22
set_option maxRecDepth 20000 in
theorem B345_p22_77 {N : Nat} {xs : Nat → Int32} {Q : iq_T} (v1 : Int) (v2 : Int) (g : iq_I) (l : iq_J) (H : (-2147483648 ≤ v2 ∧ v2 ≤ 2147483647) ∧
    ((5 : Int) ≤ v2 → (iq_P N xs 345 42 [some (iq_r 77), some (iq_i v1), some (iq_i 0), none, none] [] g l Q)) ∧
    (v2 < (5 : Int) → ((0 ≤ v2 ∧ v2 < 5) ∧ (iq_P N xs 345 22 [some (iq_r 77), some (iq_i v1), some (iq_i (v2 + 1)), none, none] [] (iq_uz g 101 v2 0) l Q)))) :
    iq_P N xs 345 22 [some (iq_r 77), some (iq_i v1), some (iq_i v2), none, none] [] g l Q := iq_w_ok (cuts := [22, 42, 121, 174]) 10 22 _ _ _ _ H

-- ScaleForgeModel.lives(I)V at 42
set_option maxRecDepth 20000 in
theorem B345_p42_77 {N : Nat} {xs : Nat → Int32} {Q : iq_T} (v1 : Int) (v2 : Int) (d3 : Option iq_V) (d4 : Option iq_V) (g : iq_I) (l : iq_J) (H : (-2147483648 ≤ v2 ∧ v2 ≤ 2147483647 ∧ -2147483648 ≤ (g 78 10) ∧ (g 78 10) ≤ 2147483647) ∧
    ((g 78 10) ≤ v2 → (iq_P N xs 345 174 [some (iq_r 77), some (iq_i v1), some (iq_i v2), (iq_nv d3), (iq_nv d4)] [] g l Q)) ∧
    (v2 < (g 78 10) → ((-2147483648 ≤ (g 101 4) ∧ (g 101 4) ≤ 2147483647) ∧
      (¬ (g 101 4) = (0 : Int) → (iq_P N xs 345 174 [some (iq_r 77), some (iq_i v1), some (iq_i v2), (iq_nv d3), (iq_nv d4)] [] g l Q)) ∧
      ((g 101 4) = (0 : Int) → ((-2147483648 ≤ (g 77 44) ∧ (g 77 44) ≤ 2147483647) ∧
        (¬ (g 77 44) = (300 : Int) → ((0 ≤ (92 + (6 * v2)) ∧ (92 + (6 * v2)) < 2392) ∧ ((-2147483648 ≤ (g 78 (92 + (6 * v2))) ∧ (g 78 (92 + (6 * v2))) ≤ 2147483647) ∧
          (¬ (g 78 (92 + (6 * v2))) = (18 : Int) → (iq_P N xs 340 0 [some (iq_r 77), some (iq_i (92 + (6 * v2))), none] [] (iq_uz g 77 44 ((g 77 44) + 1)) l (fun r g1 l2 => ∃ z3, r = some (iq_i z3) ∧ (iq_P N xs 345 121 [some (iq_r 77), some (iq_i v1), some (iq_i v2), some (iq_i (92 + (6 * v2))), some (iq_i z3)] [] g1 l2 Q)))) ∧
          ((g 78 (92 + (6 * v2))) = (18 : Int) → (iq_P N xs 345 174 [some (iq_r 77), some (iq_i v1), some (iq_i v2), some (iq_i (92 + (6 * v2))), (iq_nv d4)] [] (iq_uz g 77 44 ((g 77 44) + 1)) l Q))))) ∧
        ((g 77 44) = (300 : Int) → (iq_P N xs 345 42 [some (iq_r 77), some (iq_i v1), some (iq_i v2), (iq_nv d3), (iq_nv d4)] [] (iq_uz g 101 4 1) l Q))))))) :
    iq_P N xs 345 42 [some (iq_r 77), some (iq_i v1), some (iq_i v2), d3, d4] [] g l Q := iq_w_ok (cuts := [22, 42, 121, 174]) 37 42 _ _ _ _ H

-- ScaleForgeModel.lives(I)V at 121
set_option maxRecDepth 20000 in
theorem B345_p121_77 {N : Nat} {xs : Nat → Int32} {Q : iq_T} (v1 : Int) (v2 : Int) (v3 : Int) (v4 : Int) (g : iq_I) (l : iq_J) (H : (-2147483648 ≤ v4 ∧ v4 ≤ 2147483647) ∧
    (¬ v4 = (0 : Int) → ((0 ≤ v3 ∧ v3 < 2392) ∧ ((-2147483648 ≤ (g 78 v3) ∧ (g 78 v3) ≤ 2147483647) ∧
      (¬ (g 78 v3) = (16 : Int) → (iq_P N xs 344 0 [some (iq_r 77), some (iq_i v2), some (iq_i v4), none, none] [] g l (fun r g1 l2 => ∃ z3, r = some (iq_i z3) ∧ (iq_P N xs 345 42 [some (iq_r 77), some (iq_i v1), some (iq_i z3), some (iq_i v3), some (iq_i v4)] [] g1 l2 Q)))) ∧
      ((g 78 v3) = (16 : Int) → ((0 ≤ (v3 + 1) ∧ (v3 + 1) < 2392) ∧ ((0 ≤ v2 ∧ v2 < 80) ∧ (iq_P N xs 344 0 [some (iq_r 77), some (iq_i v2), some (iq_i v4), none, none] [] (iq_uz g 100 v2 ((g 78 (v3 + 1)) - 1)) l (fun r g4 l5 => ∃ z6, r = some (iq_i z6) ∧ (iq_P N xs 345 42 [some (iq_r 77), some (iq_i v1), some (iq_i z6), some (iq_i v3), some (iq_i v4)] [] g4 l5 Q))))))))) ∧
    (v4 = (0 : Int) → ((0 ≤ v3 ∧ v3 < 2392) ∧ ((-2147483648 ≤ (g 78 v3) ∧ (g 78 v3) ≤ 2147483647) ∧
      (¬ (g 78 v3) = (16 : Int) → (iq_P N xs 344 0 [some (iq_r 77), some (iq_i v2), some (iq_i v4), none, none] [] (iq_uz g 101 0 ((g 101 0) + 1)) l (fun r g7 l8 => ∃ z9, r = some (iq_i z9) ∧ (iq_P N xs 345 42 [some (iq_r 77), some (iq_i v1), some (iq_i z9), some (iq_i v3), some (iq_i v4)] [] g7 l8 Q)))) ∧
      ((g 78 v3) = (16 : Int) → ((0 ≤ (v3 + 1) ∧ (v3 + 1) < 2392) ∧ ((0 ≤ v2 ∧ v2 < 80) ∧ (iq_P N xs 344 0 [some (iq_r 77), some (iq_i v2), some (iq_i v4), none, none] [] (iq_uz (iq_uz g 101 0 ((g 101 0) + 1)) 100 v2 ((g 78 (v3 + 1)) - 1)) l (fun r g10 l11 => ∃ z12, r = some (iq_i z12) ∧ (iq_P N xs 345 42 [some (iq_r 77), some (iq_i v1), some (iq_i z12), some (iq_i v3), some (iq_i v4)] [] g10 l11 Q)))))))))) :
    iq_P N xs 345 121 [some (iq_r 77), some (iq_i v1), some (iq_i v2), some (iq_i v3), some (iq_i v4)] [] g l Q := iq_w_ok (cuts := [22, 42, 121, 174]) 34 121 _ _ _ _ H

-- ScaleForgeModel.lives(I)V at 174
set_option maxRecDepth 20000 in
theorem B345_p174_77 {N : Nat} {xs : Nat → Int32} {Q : iq_T} (v1 : Int) (v2 : Int) (d3 : Option iq_V) (d4 : Option iq_V) (g : iq_I) (l : iq_J) (H : (-2147483648 ≤ (g 77 45) ∧ (g 77 45) ≤ 2147483647) ∧
    ((g 77 45) ≤ (0 : Int) → (Q (none) g l)) ∧
    ((0 : Int) < (g 77 45) → (iq_P N xs 341 0 [some (iq_r 77), none] [] g l (fun r g1 l2 => r = none ∧ (iq_P N xs 345 174 [some (iq_r 77), some (iq_i v1), some (iq_i v2), (iq_nv d3), (iq_nv d4)] [] g1 l2 Q))))) :
    iq_P N xs 345 174 [some (iq_r 77), some (iq_i v1), some (iq_i v2), d3, d4] [] g l Q := iq_w_ok (cuts := [22, 42, 121, 174]) 6 174 _ _ _ _ H

-- ScaleForgeModel.live(I)I at 0
set_option maxRecDepth 20000 in
theorem B346_77 {N : Nat} {xs : Nat → Int32} {Q : iq_T} (a0 : Int) (g : iq_I) (l : iq_J) (H : iq_P N xs 149 0 [some (iq_l (iq_i2l a0)), none, some (iq_l (0 : Int64)), none, some (iq_l (Int64.ofNat 9999)), none] [] g l (fun r g1 l2 => ∃ z3, r = some (iq_i z3) ∧ ((-2147483648 ≤ z3 ∧ z3 ≤ 2147483647) ∧
      (¬ z3 = (0 : Int) → ((-2147483648 ≤ (g1 78 10) ∧ (g1 78 10) ≤ 2147483647) ∧
        (¬ (g1 78 10) = (-1 : Int) → (iq_P N xs 345 0 [some (iq_r 77), some (iq_i a0), none, none, none] [] g1 l2 (fun r g4 l5 => r = none ∧ (iq_P N xs 346 43 [some (iq_r 77), some (iq_i a0), some (iq_i 0)] [] g4 l5 Q)))) ∧
        ((g1 78 10) = (-1 : Int) → (iq_P N xs 98 0 [some (iq_r 77), some (iq_i 6)] [] g1 l2 (fun r g6 l7 => ∃ z8, r = some (iq_i z8) ∧ (Q (some (iq_i z8)) g6 l7)))))) ∧
      (z3 = (0 : Int) → (iq_P N xs 98 0 [some (iq_r 77), some (iq_i 1)] [] g1 l2 (fun r g9 l10 => ∃ z11, r = some (iq_i z11) ∧ (Q (some (iq_i z11)) g9 l10))))))) :
    iq_P N xs 346 0 [some (iq_r 77), some (iq_i a0), none] [] g l Q := iq_w_ok (cuts := [43, 68]) 17 0 _ _ _ _ H

-- ScaleForgeModel.live(I)I at 43
set_option maxRecDepth 20000 in
theorem B346_p43_77 {N : Nat} {xs : Nat → Int32} {Q : iq_T} (v1 : Int) (v2 : Int) (g : iq_I) (l : iq_J) (H : (-2147483648 ≤ v2 ∧ v2 ≤ 2147483647) ∧
    ((5 : Int) ≤ v2 → (iq_P N xs 346 68 [some (iq_r 77), some (iq_i v1), some (iq_i 0)] [] g l Q)) ∧
    (v2 < (5 : Int) → ((0 ≤ v2 ∧ v2 < 5) ∧ ((0 ≤ v2 ∧ v2 < 5) ∧ (iq_P N xs 346 43 [some (iq_r 77), some (iq_i v1), some (iq_i (v2 + 1))] [] (iq_uz g 102 v2 (g 101 v2)) l Q))))) :
    iq_P N xs 346 43 [some (iq_r 77), some (iq_i v1), some (iq_i v2)] [] g l Q := iq_w_ok (cuts := [43, 68]) 13 43 _ _ _ _ H
