/-! What must hold that a stretch of a method ends well: methods 346 to 360. -/
-- ScaleForgeModel.live(I)I at 68
set_option maxRecDepth 20000 in
theorem B346_p68_77 {N : Nat} {xs : Nat → Int32} {Q : iq_T} (v1 : Int) (v2 : Int) (g : iq_I) (l : iq_J) (H : (-2147483648 ≤ v2 ∧ v2 ≤ 2147483647 ∧ -2147483648 ≤ (g 77 46) ∧ (g 77 46) ≤ 2147483647) ∧
    ((g 77 46) ≤ v2 → (iq_P N xs 115 0 [some (iq_r 77), some (iq_i (g 77 44))] [] (iq_uz (iq_uz g 77 47 (g 77 46)) 77 54 1) l (fun r g1 l2 => ∃ z3, r = some (iq_i z3) ∧ (Q (some (iq_i z3)) g1 l2)))) ∧
    (v2 < (g 77 46) → ((0 ≤ v2 ∧ v2 < 60) ∧ ((0 ≤ v2 ∧ v2 < 60) ∧ (iq_P N xs 346 68 [some (iq_r 77), some (iq_i v1), some (iq_i (v2 + 1))] [] (iq_uz g 105 v2 (g 104 v2)) l Q))))) :
    iq_P N xs 346 68 [some (iq_r 77), some (iq_i v1), some (iq_i v2)] [] g l Q := iq_w_ok (cuts := [43, 68]) 16 68 _ _ _ _ H

-- ScaleForge$Life.count(I)I at 0
set_option maxRecDepth 20000 in
theorem B347_40 {N : Nat} {xs : Nat → Int32} {Q : iq_T} (a0 : Int) (g : iq_I) (l : iq_J) (H : (-2147483648 ≤ a0 ∧ a0 ≤ 2147483647 ∧ (3 : Int) - 0 + 1 = 4) ∧ (
    (a0 = 0 → (Q (some (iq_i (g 40 10))) g l)) ∧
    (a0 = 1 → (Q (some (iq_i (g 40 11))) g l)) ∧
    (a0 = 2 → (Q (some (iq_i (g 40 12))) g l)) ∧
    (a0 = 3 → (Q (some (iq_i (g 40 13))) g l)) ∧ True) ∧
    ((a0 < 0 ∨ 3 < a0) → ((-2147483648 ≤ (g 40 14) ∧ (g 40 14) ≤ 2147483647) ∧
      ((g 40 14) = (0 : Int) → (Q (some (iq_i 0)) g l)) ∧
      (¬ (g 40 14) = (0 : Int) → (Q (some (iq_i 1)) g l))))) :
    iq_P N xs 347 0 [some (iq_r 40), some (iq_i a0)] [] g l Q := iq_w_ok (cuts := []) 8 0 _ _ _ _ H

-- ScaleForge.lived(I)I at 0
set_option maxRecDepth 20000 in
theorem B348_0 {N : Nat} {xs : Nat → Int32} {Q : iq_T} (a0 : Int) (g : iq_I) (l : iq_J) (H : (-2147483648 ≤ a0 ∧ a0 ≤ 2147483647) ∧
    (a0 < (0 : Int) → (iq_P N xs 44 0 [some (iq_r 0), some (iq_i 1)] [] g l (fun r g1 l2 => ∃ z3, r = some (iq_i z3) ∧ (Q (some (iq_i z3)) g1 l2)))) ∧
    ((0 : Int) ≤ a0 → ((-2147483648 ≤ a0 ∧ a0 ≤ 2147483647) ∧
      (a0 ≤ (4 : Int) → ((-2147483648 ≤ (g 40 8) ∧ (g 40 8) ≤ 2147483647) ∧
        ((g 40 8) = (0 : Int) → (iq_P N xs 44 0 [some (iq_r 0), some (iq_i 6)] [] g l (fun r g4 l5 => ∃ z6, r = some (iq_i z6) ∧ (Q (some (iq_i z6)) g4 l5)))) ∧
        (¬ (g 40 8) = (0 : Int) → (iq_P N xs 347 0 [some (iq_r 40), some (iq_i a0)] [] g l (fun r g7 l8 => ∃ z9, r = some (iq_i z9) ∧ (iq_P N xs 90 0 [some (iq_r 0), some (iq_i z9)] [] g7 l8 (fun r g10 l11 => ∃ z12, r = some (iq_i z12) ∧ (Q (some (iq_i z12)) g10 l11)))))))) ∧
      ((4 : Int) < a0 → (iq_P N xs 44 0 [some (iq_r 0), some (iq_i 1)] [] g l (fun r g13 l14 => ∃ z15, r = some (iq_i z15) ∧ (Q (some (iq_i z15)) g13 l14))))))) :
    iq_P N xs 348 0 [some (iq_r 0), some (iq_i a0)] [] g l Q := iq_w_ok (cuts := []) 17 0 _ _ _ _ H

-- ScaleForgeModel.lived(I)I at 0
set_option maxRecDepth 20000 in
theorem B349_77 {N : Nat} {xs : Nat → Int32} {Q : iq_T} (a0 : Int) (g : iq_I) (l : iq_J) (H : (-2147483648 ≤ a0 ∧ a0 ≤ 2147483647) ∧
    (a0 < (0 : Int) → (iq_P N xs 98 0 [some (iq_r 77), some (iq_i 1)] [] g l (fun r g1 l2 => ∃ z3, r = some (iq_i z3) ∧ (Q (some (iq_i z3)) g1 l2)))) ∧
    ((0 : Int) ≤ a0 → ((-2147483648 ≤ a0 ∧ a0 ≤ 2147483647) ∧
      (a0 ≤ (4 : Int) → ((-2147483648 ≤ (g 77 54) ∧ (g 77 54) ≤ 2147483647) ∧
        ((g 77 54) = (0 : Int) → (iq_P N xs 98 0 [some (iq_r 77), some (iq_i 6)] [] g l (fun r g4 l5 => ∃ z6, r = some (iq_i z6) ∧ (Q (some (iq_i z6)) g4 l5)))) ∧
        (¬ (g 77 54) = (0 : Int) → ((0 ≤ a0 ∧ a0 < 5) ∧ (iq_P N xs 115 0 [some (iq_r 77), some (iq_i (g 102 a0))] [] g l (fun r g7 l8 => ∃ z9, r = some (iq_i z9) ∧ (Q (some (iq_i z9)) g7 l8))))))) ∧
      ((4 : Int) < a0 → (iq_P N xs 98 0 [some (iq_r 77), some (iq_i 1)] [] g l (fun r g10 l11 => ∃ z12, r = some (iq_i z12) ∧ (Q (some (iq_i z12)) g10 l11))))))) :
    iq_P N xs 349 0 [some (iq_r 77), some (iq_i a0)] [] g l Q := iq_w_ok (cuts := []) 16 0 _ _ _ _ H

-- ScaleForge$Life.letGoAt(I)I at 0
set_option maxRecDepth 20000 in
theorem B350_40 {N : Nat} {xs : Nat → Int32} {Q : iq_T} (a0 : Int) (g : iq_I) (l : iq_J) (H : (-2147483648 ≤ a0 ∧ a0 ≤ 2147483647) ∧
    (a0 < (0 : Int) → (Q (some (iq_i (-1))) g l)) ∧
    ((0 : Int) ≤ a0 → ((-2147483648 ≤ a0 ∧ a0 ≤ 2147483647 ∧ -2147483648 ≤ (g 40 13) ∧ (g 40 13) ≤ 2147483647) ∧
      ((g 40 13) ≤ a0 → (Q (some (iq_i (-1))) g l)) ∧
      (a0 < (g 40 13) → ((-2147483648 ≤ a0 ∧ a0 ≤ 2147483647) ∧
        ((60 : Int) ≤ a0 → (Q (some (iq_i (-1))) g l)) ∧
        (a0 < (60 : Int) → ((0 ≤ a0 ∧ a0 < 60) ∧ (Q (some (iq_i (g 43 a0))) g l)))))))) :
    iq_P N xs 350 0 [some (iq_r 40), some (iq_i a0)] [] g l Q := iq_w_ok (cuts := []) 17 0 _ _ _ _ H

-- ScaleForge.logAt(I)I at 0
set_option maxRecDepth 20000 in
theorem B351_0 {N : Nat} {xs : Nat → Int32} {Q : iq_T} (a0 : Int) (g : iq_I) (l : iq_J) (H : iq_P N xs 350 0 [some (iq_r 40), some (iq_i a0)] [] g l (fun r g1 l2 => ∃ z3, r = some (iq_i z3) ∧ (iq_P N xs 167 0 [some (iq_r 0), some (iq_i z3)] [] g1 l2 (fun r g4 l5 => ∃ z6, r = some (iq_i z6) ∧ (Q (some (iq_i z6)) g4 l5))))) :
    iq_P N xs 351 0 [some (iq_r 0), some (iq_i a0)] [] g l Q := iq_w_ok (cuts := []) 7 0 _ _ _ _ H

-- ScaleForgeModel.logAt(I)I at 0
set_option maxRecDepth 20000 in
theorem B352_77 {N : Nat} {xs : Nat → Int32} {Q : iq_T} (a0 : Int) (g : iq_I) (l : iq_J) (H : (-2147483648 ≤ (g 77 54) ∧ (g 77 54) ≤ 2147483647) ∧
    ((g 77 54) = (0 : Int) → (iq_P N xs 98 0 [some (iq_r 77), some (iq_i 6)] [] g l (fun r g1 l2 => ∃ z3, r = some (iq_i z3) ∧ (Q (some (iq_i z3)) g1 l2)))) ∧
    (¬ (g 77 54) = (0 : Int) → ((-2147483648 ≤ a0 ∧ a0 ≤ 2147483647) ∧
      (a0 < (0 : Int) → (iq_P N xs 98 0 [some (iq_r 77), some (iq_i 6)] [] g l (fun r g4 l5 => ∃ z6, r = some (iq_i z6) ∧ (Q (some (iq_i z6)) g4 l5)))) ∧
      ((0 : Int) ≤ a0 → ((-2147483648 ≤ a0 ∧ a0 ≤ 2147483647 ∧ -2147483648 ≤ (g 77 47) ∧ (g 77 47) ≤ 2147483647) ∧
        ((g 77 47) ≤ a0 → (iq_P N xs 98 0 [some (iq_r 77), some (iq_i 6)] [] g l (fun r g7 l8 => ∃ z9, r = some (iq_i z9) ∧ (Q (some (iq_i z9)) g7 l8)))) ∧
        (a0 < (g 77 47) → ((0 ≤ a0 ∧ a0 < 60) ∧ (iq_P N xs 115 0 [some (iq_r 77), some (iq_i (g 105 a0))] [] g l (fun r g10 l11 => ∃ z12, r = some (iq_i z12) ∧ (Q (some (iq_i z12)) g10 l11)))))))))) :
    iq_P N xs 352 0 [some (iq_r 77), some (iq_i a0)] [] g l Q := iq_w_ok (cuts := []) 17 0 _ _ _ _ H

-- ScaleForge.mean(II)Z at 0
set_option maxRecDepth 20000 in
theorem B353_0 {N : Nat} {xs : Nat → Int32} {Q : iq_T} (a0 : Int) (a1 : Int) (g : iq_I) (l : iq_J) (H : (-2147483648 ≤ a0 ∧ a0 ≤ 2147483647) ∧
    (a0 < (0 : Int) → (iq_P N xs 28 0 [some (iq_r 0), some (iq_i 1)] [] g l (fun r g1 l2 => ∃ z3, r = some (iq_i z3) ∧ ((z3 = 0 ∨ z3 = 1) ∧ Q (some (iq_i z3)) g1 l2)))) ∧
    ((0 : Int) ≤ a0 → ((-2147483648 ≤ a0 ∧ a0 ≤ 2147483647) ∧
      ((9999 : Int) < a0 → (iq_P N xs 28 0 [some (iq_r 0), some (iq_i 1)] [] g l (fun r g4 l5 => ∃ z6, r = some (iq_i z6) ∧ ((z6 = 0 ∨ z6 = 1) ∧ Q (some (iq_i z6)) g4 l5)))) ∧
      (a0 ≤ (9999 : Int) → ((-2147483648 ≤ a1 ∧ a1 ≤ 2147483647) ∧
        (a1 < (1 : Int) → (iq_P N xs 28 0 [some (iq_r 0), some (iq_i 1)] [] g l (fun r g7 l8 => ∃ z9, r = some (iq_i z9) ∧ ((z9 = 0 ∨ z9 = 1) ∧ Q (some (iq_i z9)) g7 l8)))) ∧
        ((1 : Int) ≤ a1 → ((-2147483648 ≤ a1 ∧ a1 ≤ 2147483647) ∧
          ((20 : Int) < a1 → (iq_P N xs 28 0 [some (iq_r 0), some (iq_i 1)] [] g l (fun r g10 l11 => ∃ z12, r = some (iq_i z12) ∧ ((z12 = 0 ∨ z12 = 1) ∧ Q (some (iq_i z12)) g10 l11)))) ∧
          (a1 ≤ (20 : Int) → ((-2147483648 ≤ ((a0 + a1) - 1) ∧ ((a0 + a1) - 1) ≤ 2147483647) ∧
            (((a0 + a1) - 1) ≤ (9999 : Int) → ((-2147483648 ≤ (g 26 5) ∧ (g 26 5) ≤ 2147483647) ∧
              (¬ (g 26 5) = (0 : Int) → (iq_P N xs 353 61 [some (iq_r 0), some (iq_i a0), some (iq_i a1), some (iq_l (0 : Int64)), none, some (iq_i 0)] [] g l Q)) ∧
              ((g 26 5) = (0 : Int) → (iq_P N xs 28 0 [some (iq_r 0), some (iq_i 6)] [] g l (fun r g13 l14 => ∃ z15, r = some (iq_i z15) ∧ ((z15 = 0 ∨ z15 = 1) ∧ Q (some (iq_i z15)) g13 l14)))))) ∧
            ((9999 : Int) < ((a0 + a1) - 1) → (iq_P N xs 28 0 [some (iq_r 0), some (iq_i 1)] [] g l (fun r g16 l17 => ∃ z18, r = some (iq_i z18) ∧ ((z18 = 0 ∨ z18 = 1) ∧ Q (some (iq_i z18)) g16 l17))))))))))))) :
    iq_P N xs 353 0 [some (iq_r 0), some (iq_i a0), some (iq_i a1), none, none, none] [] g l Q := iq_w_ok (cuts := [61]) 26 0 _ _ _ _ H

-- ScaleForge.mean(II)Z at 61
set_option maxRecDepth 20000 in
theorem B353_p61_0 {N : Nat} {xs : Nat → Int32} {Q : iq_T} (v1 : Int) (v2 : Int) (v3 : Int64) (v5 : Int) (g : iq_I) (l : iq_J) (H : (-2147483648 ≤ v5 ∧ v5 ≤ 2147483647 ∧ -2147483648 ≤ v2 ∧ v2 ≤ 2147483647) ∧
    (v2 ≤ v5 → (iq_P N xs 301 0 [some (iq_r 0), some (iq_l v3), none, some (iq_l (iq_i2l v2)), none, none, none] [] g l (fun r g1 l2 => ∃ z3, r = some (iq_i z3) ∧ ((z3 = 0 ∨ z3 = 1) ∧ Q (some (iq_i z3)) g1 l2)))) ∧
    (v5 < v2 → (iq_P N xs 87 0 [some (iq_r 44), some (iq_r 23)] [] g l (fun r g4 l5 => r = none ∧ (iq_P N xs 333 0 [some (iq_r 47), some (iq_i (v1 + v5)), none] [] g4 l5 (fun r g6 l7 => r = none ∧ (iq_P N xs 88 0 [some (iq_l (l7 44 3)), none] [] g6 l7 (fun r g8 l9 => ∃ z10, r = some (iq_i z10) ∧ (iq_P N xs 353 61 [some (iq_r 0), some (iq_i v1), some (iq_i v2), some (iq_l (v3 + (iq_i2l z10))), none, some (iq_i (v5 + 1))] [] g8 l9 Q))))))))) :
    iq_P N xs 353 61 [some (iq_r 0), some (iq_i v1), some (iq_i v2), some (iq_l v3), none, some (iq_i v5)] [] g l Q := iq_w_ok (cuts := [61]) 24 61 _ _ _ _ H

-- ScaleForgeModel.brings(I)V at 0
set_option maxRecDepth 20000 in
theorem B354_77 {N : Nat} {xs : Nat → Int32} {Q : iq_T} (a0 : Int) (g : iq_I) (l : iq_J) (H : iq_P N xs 354 2 [some (iq_r 77), some (iq_i a0), some (iq_i 0)] [] g l Q) :
    iq_P N xs 354 0 [some (iq_r 77), some (iq_i a0), none] [] g l Q := iq_w_ok (cuts := [2]) 2 0 _ _ _ _ H

-- ScaleForgeModel.brings(I)V at 2
set_option maxRecDepth 20000 in
theorem B354_p2_77 {N : Nat} {xs : Nat → Int32} {Q : iq_T} (v1 : Int) (v2 : Int) (g : iq_I) (l : iq_J) (H : (-2147483648 ≤ v2 ∧ v2 ≤ 2147483647) ∧
    ((92 : Int) ≤ v2 → (Q (none) g l)) ∧
    (v2 < (92 : Int) → ((0 ≤ (v1 + v2) ∧ (v1 + v2) < 2392) ∧ ((0 ≤ v2 ∧ v2 < 2392) ∧ (iq_P N xs 354 2 [some (iq_r 77), some (iq_i v1), some (iq_i (v2 + 1))] [] (iq_uz g 78 v2 (g 78 (v1 + v2))) l Q))))) :
    iq_P N xs 354 2 [some (iq_r 77), some (iq_i v1), some (iq_i v2)] [] g l Q := iq_w_ok (cuts := [2]) 15 2 _ _ _ _ H

-- ScaleForgeModel.mean(II)Z at 0
set_option maxRecDepth 20000 in
theorem B355_77 {N : Nat} {xs : Nat → Int32} {Q : iq_T} (a0 : Int) (a1 : Int) (g : iq_I) (l : iq_J) (H : iq_P N xs 149 0 [some (iq_l (iq_i2l a0)), none, some (iq_l (0 : Int64)), none, some (iq_l (Int64.ofNat 9999)), none] [] g l (fun r g1 l2 => ∃ z3, r = some (iq_i z3) ∧ ((-2147483648 ≤ z3 ∧ z3 ≤ 2147483647) ∧
      (z3 = (0 : Int) → (iq_P N xs 33 0 [some (iq_r 77), some (iq_i 1)] [] g1 l2 (fun r g4 l5 => ∃ z6, r = some (iq_i z6) ∧ ((z6 = 0 ∨ z6 = 1) ∧ Q (some (iq_i z6)) g4 l5)))) ∧
      (¬ z3 = (0 : Int) → (iq_P N xs 149 0 [some (iq_l (iq_i2l a1)), none, some (iq_l (1 : Int64)), none, some (iq_l (Int64.ofNat 20)), none] [] g1 l2 (fun r g7 l8 => ∃ z9, r = some (iq_i z9) ∧ ((-2147483648 ≤ z9 ∧ z9 ≤ 2147483647) ∧
          (z9 = (0 : Int) → (iq_P N xs 33 0 [some (iq_r 77), some (iq_i 1)] [] g7 l8 (fun r g10 l11 => ∃ z12, r = some (iq_i z12) ∧ ((z12 = 0 ∨ z12 = 1) ∧ Q (some (iq_i z12)) g10 l11)))) ∧
          (¬ z9 = (0 : Int) → ((-2147483648 ≤ ((a0 + a1) - 1) ∧ ((a0 + a1) - 1) ≤ 2147483647) ∧
            (((a0 + a1) - 1) ≤ (9999 : Int) → ((-2147483648 ≤ (g7 78 10) ∧ (g7 78 10) ≤ 2147483647) ∧
              (¬ (g7 78 10) = (-1 : Int) → (iq_P N xs 191 0 [some (iq_r 77), some (iq_i 2300), none] [] g7 l8 (fun r g13 l14 => r = none ∧ (iq_P N xs 355 71 [some (iq_r 77), some (iq_i a0), some (iq_i a1), some (iq_l (0 : Int64)), none, some (iq_i 0)] [] g13 l14 Q)))) ∧
              ((g7 78 10) = (-1 : Int) → (iq_P N xs 33 0 [some (iq_r 77), some (iq_i 6)] [] g7 l8 (fun r g15 l16 => ∃ z17, r = some (iq_i z17) ∧ ((z17 = 0 ∨ z17 = 1) ∧ Q (some (iq_i z17)) g15 l16)))))) ∧
            ((9999 : Int) < ((a0 + a1) - 1) → (iq_P N xs 33 0 [some (iq_r 77), some (iq_i 1)] [] g7 l8 (fun r g18 l19 => ∃ z20, r = some (iq_i z20) ∧ ((z20 = 0 ∨ z20 = 1) ∧ Q (some (iq_i z20)) g18 l19))))))))))))) :
    iq_P N xs 355 0 [some (iq_r 77), some (iq_i a0), some (iq_i a1), none, none, none] [] g l Q := iq_w_ok (cuts := [71]) 32 0 _ _ _ _ H

-- ScaleForgeModel.mean(II)Z at 71
set_option maxRecDepth 20000 in
theorem B355_p71_77 {N : Nat} {xs : Nat → Int32} {Q : iq_T} (v1 : Int) (v2 : Int) (v3 : Int64) (v5 : Int) (g : iq_I) (l : iq_J) (H : (-2147483648 ≤ v5 ∧ v5 ≤ 2147483647 ∧ -2147483648 ≤ v2 ∧ v2 ≤ 2147483647) ∧
    (v2 ≤ v5 → (iq_P N xs 303 0 [some (iq_r 77), some (iq_l v3), none, some (iq_l (iq_i2l v2)), none, none, none, none, none, none, none] [] g l (fun r g1 l2 => ∃ z3, r = some (iq_i z3) ∧ ((z3 = 0 ∨ z3 = 1) ∧ Q (some (iq_i z3)) g1 l2)))) ∧
    (v5 < v2 → (iq_P N xs 345 0 [some (iq_r 77), some (iq_i (v1 + v5)), none, none, none] [] g l (fun r g4 l5 => r = none ∧ (iq_P N xs 144 0 [some (iq_r 77), none, none] [] g4 l5 (fun r g6 l7 => ∃ z8, r = some (iq_i z8) ∧ (iq_P N xs 354 0 [some (iq_r 77), some (iq_i 2300), none] [] g6 l7 (fun r g9 l10 => r = none ∧ (iq_P N xs 355 71 [some (iq_r 77), some (iq_i v1), some (iq_i v2), some (iq_l (v3 + (iq_i2l z8))), none, some (iq_i (v5 + 1))] [] g9 l10 Q))))))))) :
    iq_P N xs 355 71 [some (iq_r 77), some (iq_i v1), some (iq_i v2), some (iq_l v3), none, some (iq_i v5)] [] g l Q := iq_w_ok (cuts := [71]) 19 71 _ _ _ _ H

-- ScaleForgeModel.copies(II)V at 0
set_option maxRecDepth 20000 in
theorem B357_77 {N : Nat} {xs : Nat → Int32} {Q : iq_T} (a0 : Int) (a1 : Int) (g : iq_I) (l : iq_J) (H : iq_P N xs 357 2 [some (iq_r 77), some (iq_i a0), some (iq_i a1), some (iq_i 0)] [] g l Q) :
    iq_P N xs 357 0 [some (iq_r 77), some (iq_i a0), some (iq_i a1), none] [] g l Q := iq_w_ok (cuts := [2]) 2 0 _ _ _ _ H

-- ScaleForgeModel.copies(II)V at 2
set_option maxRecDepth 20000 in
theorem B357_p2_77 {N : Nat} {xs : Nat → Int32} {Q : iq_T} (v1 : Int) (v2 : Int) (v3 : Int) (g : iq_I) (l : iq_J) (H : (-2147483648 ≤ v3 ∧ v3 ≤ 2147483647) ∧
    ((460 : Int) ≤ v3 → (Q (none) g l)) ∧
    (v3 < (460 : Int) → ((0 ≤ ((460 * v1) + v3) ∧ ((460 * v1) + v3) < 2392) ∧ ((0 ≤ ((460 * v2) + v3) ∧ ((460 * v2) + v3) < 2392) ∧ (iq_P N xs 357 2 [some (iq_r 77), some (iq_i v1), some (iq_i v2), some (iq_i (v3 + 1))] [] (iq_uz g 78 ((460 * v2) + v3) (g 78 ((460 * v1) + v3))) l Q))))) :
    iq_P N xs 357 2 [some (iq_r 77), some (iq_i v1), some (iq_i v2), some (iq_i v3)] [] g l Q := iq_w_ok (cuts := [2]) 21 2 _ _ _ _ H

-- ScaleForgeModel.mark()I at 0
set_option maxRecDepth 20000 in
theorem B358_77 {N : Nat} {xs : Nat → Int32} {Q : iq_T} (g : iq_I) (l : iq_J) (H : (-2147483648 ≤ (g 77 55) ∧ (g 77 55) ≤ 2147483647) ∧
    (¬ (g 77 55) = (3 : Int) → (iq_P N xs 357 0 [some (iq_r 77), some (iq_i 0), some (iq_i ((g 77 55) + 1)), none] [] (iq_uz g 77 55 ((g 77 55) + 1)) l (fun r g1 l2 => r = none ∧ (iq_P N xs 115 0 [some (iq_r 77), some (iq_i (g1 77 55))] [] g1 l2 (fun r g3 l4 => ∃ z5, r = some (iq_i z5) ∧ (Q (some (iq_i z5)) g3 l4)))))) ∧
    ((g 77 55) = (3 : Int) → (iq_P N xs 98 0 [some (iq_r 77), some (iq_i 4)] [] g l (fun r g6 l7 => ∃ z8, r = some (iq_i z8) ∧ (Q (some (iq_i z8)) g6 l7))))) :
    iq_P N xs 358 0 [some (iq_r 77)] [] g l Q := iq_w_ok (cuts := []) 20 0 _ _ _ _ H

-- ScaleForgeModel.undo()I at 0
set_option maxRecDepth 20000 in
theorem B360_77 {N : Nat} {xs : Nat → Int32} {Q : iq_T} (g : iq_I) (l : iq_J) (H : (-2147483648 ≤ (g 77 55) ∧ (g 77 55) ≤ 2147483647) ∧
    (¬ (g 77 55) = (0 : Int) → (iq_P N xs 357 0 [some (iq_r 77), some (iq_i (g 77 55)), some (iq_i 0), none] [] g l (fun r g1 l2 => r = none ∧ (iq_P N xs 115 0 [some (iq_r 77), some (iq_i ((g1 77 55) - 1))] [] (iq_uz g1 77 55 ((g1 77 55) - 1)) l2 (fun r g3 l4 => ∃ z5, r = some (iq_i z5) ∧ (Q (some (iq_i z5)) g3 l4)))))) ∧
    ((g 77 55) = (0 : Int) → (iq_P N xs 98 0 [some (iq_r 77), some (iq_i 6)] [] g l (fun r g6 l7 => ∃ z8, r = some (iq_i z8) ∧ (Q (some (iq_i z8)) g6 l7))))) :
    iq_P N xs 360 0 [some (iq_r 77)] [] g l Q := iq_w_ok (cuts := []) 19 0 _ _ _ _ H
