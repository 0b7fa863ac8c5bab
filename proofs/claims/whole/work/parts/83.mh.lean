/-! Stretches of mark and undo, and what becomes for marked ones. -/
-- ScaleForge.mark()I at 0
set_option maxRecDepth 20000 in
theorem B356_0 {N : Nat} {xs : Nat → Int32} {Q : iq_T} (g : iq_I) (l : iq_J) (H : (-2147483648 ≤ (g 0 18) ∧ (g 0 18) ≤ 2147483647) ∧
    ((g 0 18) < (0 : Int) → (iq_P N xs 44 0 [some (iq_r 0), some (iq_i 4)] [] g l (fun r g1 l2 => ∃ z3, r = some (iq_i z3) ∧ (Q (some (iq_i z3)) g1 l2)))) ∧
    ((0 : Int) ≤ (g 0 18) → ((-2147483648 ≤ (g 0 18) ∧ (g 0 18) ≤ 2147483647) ∧
      ((g 0 18) < (3 : Int) → (iq_P N xs 356 21 [some (iq_r 0)] [] g l Q)) ∧
      ((3 : Int) ≤ (g 0 18) → (iq_P N xs 44 0 [some (iq_r 0), some (iq_i 4)] [] g l (fun r g4 l5 => ∃ z6, r = some (iq_i z6) ∧ (Q (some (iq_i z6)) g4 l5))))))) :
    iq_P N xs 356 0 [some (iq_r 0)] [] g l Q := iq_w_ok (cuts := [21]) 11 0 _ _ _ _ H

-- ScaleForge.undo()I at 0
set_option maxRecDepth 20000 in
theorem B359_0 {N : Nat} {xs : Nat → Int32} {Q : iq_T} (g : iq_I) (l : iq_J) (H : (-2147483648 ≤ (g 0 18) ∧ (g 0 18) ≤ 2147483647) ∧
    ((g 0 18) < (1 : Int) → (iq_P N xs 44 0 [some (iq_r 0), some (iq_i 6)] [] g l (fun r g1 l2 => ∃ z3, r = some (iq_i z3) ∧ (Q (some (iq_i z3)) g1 l2)))) ∧
    ((1 : Int) ≤ (g 0 18) → ((-2147483648 ≤ (g 0 18) ∧ (g 0 18) ≤ 2147483647) ∧
      ((g 0 18) ≤ (3 : Int) → (iq_P N xs 359 33 [some (iq_r 0)] [] (iq_uz g 0 18 ((g 0 18) - 1)) l Q)) ∧
      ((3 : Int) < (g 0 18) → (iq_P N xs 44 0 [some (iq_r 0), some (iq_i 6)] [] g l (fun r g4 l5 => ∃ z6, r = some (iq_i z6) ∧ (Q (some (iq_i z6)) g4 l5))))))) :
    iq_P N xs 359 0 [some (iq_r 0)] [] g l Q := iq_w_ok (cuts := [33]) 14 0 _ _ _ _ H

-- mark at 21, marks 0
set_option maxRecDepth 20000 in
theorem B356_k0 {N : Nat} {xs : Nat → Int32} {Q : iq_T} (g : iq_I) (l : iq_J) (H : (0 ≤ (0 : Int) ∧ (0 : Int) < 3) ∧ (iq_P N xs 87 0 [some (iq_r 53), some (iq_r 23)] [] (iq_uz g 0 18 0) l (fun r g1 l2 => r = none ∧ (iq_P N xs 356 37 [some (iq_r 0)] [] g1 l2 Q)))) :
    iq_P N xs 356 21 [some (iq_r 0)] [] (iq_uz g 0 18 0) l Q := iq_w_ok (cuts := [37]) 8 21 _ _ _ _ H

-- mark at 37, marks 0
set_option maxRecDepth 20000 in
theorem B356_j0 {N : Nat} {xs : Nat → Int32} {Q : iq_T} (g : iq_I) (l : iq_J) (H : (0 ≤ (0 : Int) ∧ (0 : Int) < 3) ∧ (iq_P N xs 127 0 [some (iq_r 56), some (iq_r 26)] [] (iq_uz g 0 18 0) l (fun r g1 l2 => r = none ∧ (iq_P N xs 90 0 [some (iq_r 0), some (iq_i ((g1 0 18) + 1))] [] (iq_uz g1 0 18 ((g1 0 18) + 1)) l2 (fun r g3 l4 => ∃ z5, r = some (iq_i z5) ∧ (Q (some (iq_i z5)) g3 l4)))))) :
    iq_P N xs 356 37 [some (iq_r 0)] [] (iq_uz g 0 18 0) l Q := iq_w_ok (cuts := []) 19 37 _ _ _ _ H

-- undo at 33, marks 0
set_option maxRecDepth 20000 in
theorem B359_k0 {N : Nat} {xs : Nat → Int32} {Q : iq_T} (g : iq_I) (l : iq_J) (H : (0 ≤ (0 : Int) ∧ (0 : Int) < 3) ∧ (iq_P N xs 87 0 [some (iq_r 23), some (iq_r 53)] [] (iq_uz g 0 18 0) l (fun r g1 l2 => r = none ∧ (iq_P N xs 359 49 [some (iq_r 0)] [] g1 l2 Q)))) :
    iq_P N xs 359 33 [some (iq_r 0)] [] (iq_uz g 0 18 0) l Q := iq_w_ok (cuts := [49]) 8 33 _ _ _ _ H

-- undo at 49, marks 0
set_option maxRecDepth 20000 in
theorem B359_j0 {N : Nat} {xs : Nat → Int32} {Q : iq_T} (g : iq_I) (l : iq_J) (H : (0 ≤ (0 : Int) ∧ (0 : Int) < 3) ∧ (iq_P N xs 127 0 [some (iq_r 26), some (iq_r 56)] [] (iq_uz g 0 18 0) l (fun r g1 l2 => r = none ∧ (iq_P N xs 90 0 [some (iq_r 0), some (iq_i (g1 0 18))] [] g1 l2 (fun r g3 l4 => ∃ z5, r = some (iq_i z5) ∧ (Q (some (iq_i z5)) g3 l4)))))) :
    iq_P N xs 359 49 [some (iq_r 0)] [] (iq_uz g 0 18 0) l Q := iq_w_ok (cuts := []) 13 49 _ _ _ _ H

-- mark at 21, marks 1
set_option maxRecDepth 20000 in
theorem B356_k1 {N : Nat} {xs : Nat → Int32} {Q : iq_T} (g : iq_I) (l : iq_J) (H : (0 ≤ (1 : Int) ∧ (1 : Int) < 3) ∧ (iq_P N xs 87 0 [some (iq_r 61), some (iq_r 23)] [] (iq_uz g 0 18 1) l (fun r g1 l2 => r = none ∧ (iq_P N xs 356 37 [some (iq_r 0)] [] g1 l2 Q)))) :
    iq_P N xs 356 21 [some (iq_r 0)] [] (iq_uz g 0 18 1) l Q := iq_w_ok (cuts := [37]) 8 21 _ _ _ _ H

-- mark at 37, marks 1
set_option maxRecDepth 20000 in
theorem B356_j1 {N : Nat} {xs : Nat → Int32} {Q : iq_T} (g : iq_I) (l : iq_J) (H : (0 ≤ (1 : Int) ∧ (1 : Int) < 3) ∧ (iq_P N xs 127 0 [some (iq_r 64), some (iq_r 26)] [] (iq_uz g 0 18 1) l (fun r g1 l2 => r = none ∧ (iq_P N xs 90 0 [some (iq_r 0), some (iq_i ((g1 0 18) + 1))] [] (iq_uz g1 0 18 ((g1 0 18) + 1)) l2 (fun r g3 l4 => ∃ z5, r = some (iq_i z5) ∧ (Q (some (iq_i z5)) g3 l4)))))) :
    iq_P N xs 356 37 [some (iq_r 0)] [] (iq_uz g 0 18 1) l Q := iq_w_ok (cuts := []) 19 37 _ _ _ _ H

-- undo at 33, marks 1
set_option maxRecDepth 20000 in
theorem B359_k1 {N : Nat} {xs : Nat → Int32} {Q : iq_T} (g : iq_I) (l : iq_J) (H : (0 ≤ (1 : Int) ∧ (1 : Int) < 3) ∧ (iq_P N xs 87 0 [some (iq_r 23), some (iq_r 61)] [] (iq_uz g 0 18 1) l (fun r g1 l2 => r = none ∧ (iq_P N xs 359 49 [some (iq_r 0)] [] g1 l2 Q)))) :
    iq_P N xs 359 33 [some (iq_r 0)] [] (iq_uz g 0 18 1) l Q := iq_w_ok (cuts := [49]) 8 33 _ _ _ _ H

-- undo at 49, marks 1
set_option maxRecDepth 20000 in
theorem B359_j1 {N : Nat} {xs : Nat → Int32} {Q : iq_T} (g : iq_I) (l : iq_J) (H : (0 ≤ (1 : Int) ∧ (1 : Int) < 3) ∧ (iq_P N xs 127 0 [some (iq_r 26), some (iq_r 64)] [] (iq_uz g 0 18 1) l (fun r g1 l2 => r = none ∧ (iq_P N xs 90 0 [some (iq_r 0), some (iq_i (g1 0 18))] [] g1 l2 (fun r g3 l4 => ∃ z5, r = some (iq_i z5) ∧ (Q (some (iq_i z5)) g3 l4)))))) :
    iq_P N xs 359 49 [some (iq_r 0)] [] (iq_uz g 0 18 1) l Q := iq_w_ok (cuts := []) 13 49 _ _ _ _ H

-- mark at 21, marks 2
set_option maxRecDepth 20000 in
theorem B356_k2 {N : Nat} {xs : Nat → Int32} {Q : iq_T} (g : iq_I) (l : iq_J) (H : (0 ≤ (2 : Int) ∧ (2 : Int) < 3) ∧ (iq_P N xs 87 0 [some (iq_r 69), some (iq_r 23)] [] (iq_uz g 0 18 2) l (fun r g1 l2 => r = none ∧ (iq_P N xs 356 37 [some (iq_r 0)] [] g1 l2 Q)))) :
    iq_P N xs 356 21 [some (iq_r 0)] [] (iq_uz g 0 18 2) l Q := iq_w_ok (cuts := [37]) 8 21 _ _ _ _ H

-- mark at 37, marks 2
set_option maxRecDepth 20000 in
theorem B356_j2 {N : Nat} {xs : Nat → Int32} {Q : iq_T} (g : iq_I) (l : iq_J) (H : (0 ≤ (2 : Int) ∧ (2 : Int) < 3) ∧ (iq_P N xs 127 0 [some (iq_r 72), some (iq_r 26)] [] (iq_uz g 0 18 2) l (fun r g1 l2 => r = none ∧ (iq_P N xs 90 0 [some (iq_r 0), some (iq_i ((g1 0 18) + 1))] [] (iq_uz g1 0 18 ((g1 0 18) + 1)) l2 (fun r g3 l4 => ∃ z5, r = some (iq_i z5) ∧ (Q (some (iq_i z5)) g3 l4)))))) :
    iq_P N xs 356 37 [some (iq_r 0)] [] (iq_uz g 0 18 2) l Q := iq_w_ok (cuts := []) 19 37 _ _ _ _ H

-- undo at 33, marks 2
set_option maxRecDepth 20000 in
theorem B359_k2 {N : Nat} {xs : Nat → Int32} {Q : iq_T} (g : iq_I) (l : iq_J) (H : (0 ≤ (2 : Int) ∧ (2 : Int) < 3) ∧ (iq_P N xs 87 0 [some (iq_r 23), some (iq_r 69)] [] (iq_uz g 0 18 2) l (fun r g1 l2 => r = none ∧ (iq_P N xs 359 49 [some (iq_r 0)] [] g1 l2 Q)))) :
    iq_P N xs 359 33 [some (iq_r 0)] [] (iq_uz g 0 18 2) l Q := iq_w_ok (cuts := [49]) 8 33 _ _ _ _ H

-- undo at 49, marks 2
set_option maxRecDepth 20000 in
theorem B359_j2 {N : Nat} {xs : Nat → Int32} {Q : iq_T} (g : iq_I) (l : iq_J) (H : (0 ≤ (2 : Int) ∧ (2 : Int) < 3) ∧ (iq_P N xs 127 0 [some (iq_r 26), some (iq_r 72)] [] (iq_uz g 0 18 2) l (fun r g1 l2 => r = none ∧ (iq_P N xs 90 0 [some (iq_r 0), some (iq_i (g1 0 18))] [] g1 l2 (fun r g3 l4 => ∃ z5, r = some (iq_i z5) ∧ (Q (some (iq_i z5)) g3 l4)))))) :
    iq_P N xs 359 49 [some (iq_r 0)] [] (iq_uz g 0 18 2) l Q := iq_w_ok (cuts := []) 13 49 _ _ _ _ H

-- ScaleForge$Scale.becomes(LScaleForge$Scale;)V at 0
set_option maxRecDepth 20000 in
theorem B87_53_23 {N : Nat} {xs : Nat → Int32} {Q : iq_T} (g : iq_I) (l : iq_J) (H : (0 ≤ (0 : Int) ∧ 0 ≤ (0 : Int) ∧ 0 ≤ (9 : Int) ∧ (0 : Int) + 9 ≤ 9 ∧ (0 : Int) + 9 ≤ 9) ∧ ((0 ≤ (0 : Int) ∧ 0 ≤ (0 : Int) ∧ 0 ≤ (12 : Int) ∧ (0 : Int) + 12 ≤ 12 ∧ (0 : Int) + 12 ≤ 12) ∧ (Q (none) (iq_uz (iq_rz (iq_rz g 54 (iq_cz (g 24) (g 54) 0 0 9)) 55 (iq_cz (g 25) (g 55) 0 0 12)) 53 2 (g 23 2)) (iq_uz (iq_uz l 53 3 (l 23 3)) 53 4 (l 23 4))))) :
    iq_P N xs 87 0 [some (iq_r 53), some (iq_r 23)] [] g l Q := iq_w_ok (cuts := []) 29 0 _ _ _ _ H

-- ScaleForge$Scale.becomes(LScaleForge$Scale;)V at 0
set_option maxRecDepth 20000 in
theorem B87_61_23 {N : Nat} {xs : Nat → Int32} {Q : iq_T} (g : iq_I) (l : iq_J) (H : (0 ≤ (0 : Int) ∧ 0 ≤ (0 : Int) ∧ 0 ≤ (9 : Int) ∧ (0 : Int) + 9 ≤ 9 ∧ (0 : Int) + 9 ≤ 9) ∧ ((0 ≤ (0 : Int) ∧ 0 ≤ (0 : Int) ∧ 0 ≤ (12 : Int) ∧ (0 : Int) + 12 ≤ 12 ∧ (0 : Int) + 12 ≤ 12) ∧ (Q (none) (iq_uz (iq_rz (iq_rz g 62 (iq_cz (g 24) (g 62) 0 0 9)) 63 (iq_cz (g 25) (g 63) 0 0 12)) 61 2 (g 23 2)) (iq_uz (iq_uz l 61 3 (l 23 3)) 61 4 (l 23 4))))) :
    iq_P N xs 87 0 [some (iq_r 61), some (iq_r 23)] [] g l Q := iq_w_ok (cuts := []) 29 0 _ _ _ _ H

-- ScaleForge$Scale.becomes(LScaleForge$Scale;)V at 0
set_option maxRecDepth 20000 in
theorem B87_69_23 {N : Nat} {xs : Nat → Int32} {Q : iq_T} (g : iq_I) (l : iq_J) (H : (0 ≤ (0 : Int) ∧ 0 ≤ (0 : Int) ∧ 0 ≤ (9 : Int) ∧ (0 : Int) + 9 ≤ 9 ∧ (0 : Int) + 9 ≤ 9) ∧ ((0 ≤ (0 : Int) ∧ 0 ≤ (0 : Int) ∧ 0 ≤ (12 : Int) ∧ (0 : Int) + 12 ≤ 12 ∧ (0 : Int) + 12 ≤ 12) ∧ (Q (none) (iq_uz (iq_rz (iq_rz g 70 (iq_cz (g 24) (g 70) 0 0 9)) 71 (iq_cz (g 25) (g 71) 0 0 12)) 69 2 (g 23 2)) (iq_uz (iq_uz l 69 3 (l 23 3)) 69 4 (l 23 4))))) :
    iq_P N xs 87 0 [some (iq_r 69), some (iq_r 23)] [] g l Q := iq_w_ok (cuts := []) 29 0 _ _ _ _ H

-- ScaleForge$Scale.becomes(LScaleForge$Scale;)V at 0
set_option maxRecDepth 20000 in
theorem B87_23_53 {N : Nat} {xs : Nat → Int32} {Q : iq_T} (g : iq_I) (l : iq_J) (H : (0 ≤ (0 : Int) ∧ 0 ≤ (0 : Int) ∧ 0 ≤ (9 : Int) ∧ (0 : Int) + 9 ≤ 9 ∧ (0 : Int) + 9 ≤ 9) ∧ ((0 ≤ (0 : Int) ∧ 0 ≤ (0 : Int) ∧ 0 ≤ (12 : Int) ∧ (0 : Int) + 12 ≤ 12 ∧ (0 : Int) + 12 ≤ 12) ∧ (Q (none) (iq_uz (iq_rz (iq_rz g 24 (iq_cz (g 54) (g 24) 0 0 9)) 25 (iq_cz (g 55) (g 25) 0 0 12)) 23 2 (g 53 2)) (iq_uz (iq_uz l 23 3 (l 53 3)) 23 4 (l 53 4))))) :
    iq_P N xs 87 0 [some (iq_r 23), some (iq_r 53)] [] g l Q := iq_w_ok (cuts := []) 29 0 _ _ _ _ H

-- ScaleForge$Scale.becomes(LScaleForge$Scale;)V at 0
set_option maxRecDepth 20000 in
theorem B87_23_61 {N : Nat} {xs : Nat → Int32} {Q : iq_T} (g : iq_I) (l : iq_J) (H : (0 ≤ (0 : Int) ∧ 0 ≤ (0 : Int) ∧ 0 ≤ (9 : Int) ∧ (0 : Int) + 9 ≤ 9 ∧ (0 : Int) + 9 ≤ 9) ∧ ((0 ≤ (0 : Int) ∧ 0 ≤ (0 : Int) ∧ 0 ≤ (12 : Int) ∧ (0 : Int) + 12 ≤ 12 ∧ (0 : Int) + 12 ≤ 12) ∧ (Q (none) (iq_uz (iq_rz (iq_rz g 24 (iq_cz (g 62) (g 24) 0 0 9)) 25 (iq_cz (g 63) (g 25) 0 0 12)) 23 2 (g 61 2)) (iq_uz (iq_uz l 23 3 (l 61 3)) 23 4 (l 61 4))))) :
    iq_P N xs 87 0 [some (iq_r 23), some (iq_r 61)] [] g l Q := iq_w_ok (cuts := []) 29 0 _ _ _ _ H

-- ScaleForge$Scale.becomes(LScaleForge$Scale;)V at 0
set_option maxRecDepth 20000 in
theorem B87_23_69 {N : Nat} {xs : Nat → Int32} {Q : iq_T} (g : iq_I) (l : iq_J) (H : (0 ≤ (0 : Int) ∧ 0 ≤ (0 : Int) ∧ 0 ≤ (9 : Int) ∧ (0 : Int) + 9 ≤ 9 ∧ (0 : Int) + 9 ≤ 9) ∧ ((0 ≤ (0 : Int) ∧ 0 ≤ (0 : Int) ∧ 0 ≤ (12 : Int) ∧ (0 : Int) + 12 ≤ 12 ∧ (0 : Int) + 12 ≤ 12) ∧ (Q (none) (iq_uz (iq_rz (iq_rz g 24 (iq_cz (g 70) (g 24) 0 0 9)) 25 (iq_cz (g 71) (g 25) 0 0 12)) 23 2 (g 69 2)) (iq_uz (iq_uz l 23 3 (l 69 3)) 23 4 (l 69 4))))) :
    iq_P N xs 87 0 [some (iq_r 23), some (iq_r 69)] [] g l Q := iq_w_ok (cuts := []) 29 0 _ _ _ _ H

-- ScaleForge$Studies.becomes(LScaleForge$Studies;)V at 0
set_option maxRecDepth 20000 in
theorem B127_56_26 {N : Nat} {xs : Nat → Int32} {Q : iq_T} (g : iq_I) (l : iq_J) (H : (0 ≤ (0 : Int) ∧ 0 ≤ (0 : Int) ∧ 0 ≤ (30 : Int) ∧ (0 : Int) + 30 ≤ 30 ∧ (0 : Int) + 30 ≤ 30) ∧ ((0 ≤ (0 : Int) ∧ 0 ≤ (0 : Int) ∧ 0 ≤ (30 : Int) ∧ (0 : Int) + 30 ≤ 30 ∧ (0 : Int) + 30 ≤ 30) ∧ ((0 ≤ (0 : Int) ∧ 0 ≤ (0 : Int) ∧ 0 ≤ (30 : Int) ∧ (0 : Int) + 30 ≤ 30 ∧ (0 : Int) + 30 ≤ 30) ∧ ((0 ≤ (0 : Int) ∧ 0 ≤ (0 : Int) ∧ 0 ≤ (30 : Int) ∧ (0 : Int) + 30 ≤ 30 ∧ (0 : Int) + 30 ≤ 30) ∧ (iq_P N xs 127 68 [some (iq_r 56), some (iq_r 26)] [] (iq_uz (iq_rz (iq_rz (iq_rz (iq_rz g 57 (iq_cz (g 27) (g 57) 0 0 30)) 58 (iq_cz (g 28) (g 58) 0 0 30)) 59 (iq_cz (g 29) (g 59) 0 0 30)) 60 (iq_cz (g 30) (g 60) 0 0 30)) 56 4 (g 26 4)) l Q))))) :
    iq_P N xs 127 0 [some (iq_r 56), some (iq_r 26)] [] g l Q := iq_w_ok (cuts := [68]) 36 0 _ _ _ _ H

-- ScaleForge$Studies.becomes(LScaleForge$Studies;)V at 68
set_option maxRecDepth 20000 in
theorem B127_p68_56_26 {N : Nat} {xs : Nat → Int32} {Q : iq_T} (g : iq_I) (l : iq_J) (H : ((g 26 5) = 0 ∨ (g 26 5) = 1) ∧ (Q (none) (iq_uz g 56 5 (g 26 5)) l)) :
    iq_P N xs 127 68 [some (iq_r 56), some (iq_r 26)] [] g l Q := iq_w_ok (cuts := [68]) 5 68 _ _ _ _ H

-- ScaleForge$Studies.becomes(LScaleForge$Studies;)V at 0
set_option maxRecDepth 20000 in
theorem B127_64_26 {N : Nat} {xs : Nat → Int32} {Q : iq_T} (g : iq_I) (l : iq_J) (H : (0 ≤ (0 : Int) ∧ 0 ≤ (0 : Int) ∧ 0 ≤ (30 : Int) ∧ (0 : Int) + 30 ≤ 30 ∧ (0 : Int) + 30 ≤ 30) ∧ ((0 ≤ (0 : Int) ∧ 0 ≤ (0 : Int) ∧ 0 ≤ (30 : Int) ∧ (0 : Int) + 30 ≤ 30 ∧ (0 : Int) + 30 ≤ 30) ∧ ((0 ≤ (0 : Int) ∧ 0 ≤ (0 : Int) ∧ 0 ≤ (30 : Int) ∧ (0 : Int) + 30 ≤ 30 ∧ (0 : Int) + 30 ≤ 30) ∧ ((0 ≤ (0 : Int) ∧ 0 ≤ (0 : Int) ∧ 0 ≤ (30 : Int) ∧ (0 : Int) + 30 ≤ 30 ∧ (0 : Int) + 30 ≤ 30) ∧ (iq_P N xs 127 68 [some (iq_r 64), some (iq_r 26)] [] (iq_uz (iq_rz (iq_rz (iq_rz (iq_rz g 65 (iq_cz (g 27) (g 65) 0 0 30)) 66 (iq_cz (g 28) (g 66) 0 0 30)) 67 (iq_cz (g 29) (g 67) 0 0 30)) 68 (iq_cz (g 30) (g 68) 0 0 30)) 64 4 (g 26 4)) l Q))))) :
    iq_P N xs 127 0 [some (iq_r 64), some (iq_r 26)] [] g l Q := iq_w_ok (cuts := [68]) 36 0 _ _ _ _ H

-- ScaleForge$Studies.becomes(LScaleForge$Studies;)V at 68
set_option maxRecDepth 20000 in
theorem B127_p68_64_26 {N : Nat} {xs : Nat → Int32} {Q : iq_T} (g : iq_I) (l : iq_J) (H : ((g 26 5) = 0 ∨ (g 26 5) = 1) ∧ (Q (none) (iq_uz g 64 5 (g 26 5)) l)) :
    iq_P N xs 127 68 [some (iq_r 64), some (iq_r 26)] [] g l Q := iq_w_ok (cuts := [68]) 5 68 _ _ _ _ H

-- ScaleForge$Studies.becomes(LScaleForge$Studies;)V at 0
set_option maxRecDepth 20000 in
theorem B127_72_26 {N : Nat} {xs : Nat → Int32} {Q : iq_T} (g : iq_I) (l : iq_J) (H : (0 ≤ (0 : Int) ∧ 0 ≤ (0 : Int) ∧ 0 ≤ (30 : Int) ∧ (0 : Int) + 30 ≤ 30 ∧ (0 : Int) + 30 ≤ 30) ∧ ((0 ≤ (0 : Int) ∧ 0 ≤ (0 : Int) ∧ 0 ≤ (30 : Int) ∧ (0 : Int) + 30 ≤ 30 ∧ (0 : Int) + 30 ≤ 30) ∧ ((0 ≤ (0 : Int) ∧ 0 ≤ (0 : Int) ∧ 0 ≤ (30 : Int) ∧ (0 : Int) + 30 ≤ 30 ∧ (0 : Int) + 30 ≤ 30) ∧ ((0 ≤ (0 : Int) ∧ 0 ≤ (0 : Int) ∧ 0 ≤ (30 : Int) ∧ (0 : Int) + 30 ≤ 30 ∧ (0 : Int) + 30 ≤ 30) ∧ (iq_P N xs 127 68 [some (iq_r 72), some (iq_r 26)] [] (iq_uz (iq_rz (iq_rz (iq_rz (iq_rz g 73 (iq_cz (g 27) (g 73) 0 0 30)) 74 (iq_cz (g 28) (g 74) 0 0 30)) 75 (iq_cz (g 29) (g 75) 0 0 30)) 76 (iq_cz (g 30) (g 76) 0 0 30)) 72 4 (g 26 4)) l Q))))) :
    iq_P N xs 127 0 [some (iq_r 72), some (iq_r 26)] [] g l Q := iq_w_ok (cuts := [68]) 36 0 _ _ _ _ H

-- ScaleForge$Studies.becomes(LScaleForge$Studies;)V at 68
set_option maxRecDepth 20000 in
theorem B127_p68_72_26 {N : Nat} {xs : Nat → Int32} {Q : iq_T} (g : iq_I) (l : iq_J) (H : ((g 26 5) = 0 ∨ (g 26 5) = 1) ∧ (Q (none) (iq_uz g 72 5 (g 26 5)) l)) :
    iq_P N xs 127 68 [some (iq_r 72), some (iq_r 26)] [] g l Q := iq_w_ok (cuts := [68]) 5 68 _ _ _ _ H

-- ScaleForge$Studies.becomes(LScaleForge$Studies;)V at 0
set_option maxRecDepth 20000 in
theorem B127_26_56 {N : Nat} {xs : Nat → Int32} {Q : iq_T} (g : iq_I) (l : iq_J) (H : (0 ≤ (0 : Int) ∧ 0 ≤ (0 : Int) ∧ 0 ≤ (30 : Int) ∧ (0 : Int) + 30 ≤ 30 ∧ (0 : Int) + 30 ≤ 30) ∧ ((0 ≤ (0 : Int) ∧ 0 ≤ (0 : Int) ∧ 0 ≤ (30 : Int) ∧ (0 : Int) + 30 ≤ 30 ∧ (0 : Int) + 30 ≤ 30) ∧ ((0 ≤ (0 : Int) ∧ 0 ≤ (0 : Int) ∧ 0 ≤ (30 : Int) ∧ (0 : Int) + 30 ≤ 30 ∧ (0 : Int) + 30 ≤ 30) ∧ ((0 ≤ (0 : Int) ∧ 0 ≤ (0 : Int) ∧ 0 ≤ (30 : Int) ∧ (0 : Int) + 30 ≤ 30 ∧ (0 : Int) + 30 ≤ 30) ∧ (iq_P N xs 127 68 [some (iq_r 26), some (iq_r 56)] [] (iq_uz (iq_rz (iq_rz (iq_rz (iq_rz g 27 (iq_cz (g 57) (g 27) 0 0 30)) 28 (iq_cz (g 58) (g 28) 0 0 30)) 29 (iq_cz (g 59) (g 29) 0 0 30)) 30 (iq_cz (g 60) (g 30) 0 0 30)) 26 4 (g 56 4)) l Q))))) :
    iq_P N xs 127 0 [some (iq_r 26), some (iq_r 56)] [] g l Q := iq_w_ok (cuts := [68]) 36 0 _ _ _ _ H

-- ScaleForge$Studies.becomes(LScaleForge$Studies;)V at 68
set_option maxRecDepth 20000 in
theorem B127_p68_26_56 {N : Nat} {xs : Nat → Int32} {Q : iq_T} (g : iq_I) (l : iq_J) (H : ((g 56 5) = 0 ∨ (g 56 5) = 1) ∧ (Q (none) (iq_uz g 26 5 (g 56 5)) l)) :
    iq_P N xs 127 68 [some (iq_r 26), some (iq_r 56)] [] g l Q := iq_w_ok (cuts := [68]) 5 68 _ _ _ _ H

-- ScaleForge$Studies.becomes(LScaleForge$Studies;)V at 0
set_option maxRecDepth 20000 in
theorem B127_26_64 {N : Nat} {xs : Nat → Int32} {Q : iq_T} (g : iq_I) (l : iq_J) (H : (0 ≤ (0 : Int) ∧ 0 ≤ (0 : Int) ∧ 0 ≤ (30 : Int) ∧ (0 : Int) + 30 ≤ 30 ∧ (0 : Int) + 30 ≤ 30) ∧ ((0 ≤ (0 : Int) ∧ 0 ≤ (0 : Int) ∧ 0 ≤ (30 : Int) ∧ (0 : Int) + 30 ≤ 30 ∧ (0 : Int) + 30 ≤ 30) ∧ ((0 ≤ (0 : Int) ∧ 0 ≤ (0 : Int) ∧ 0 ≤ (30 : Int) ∧ (0 : Int) + 30 ≤ 30 ∧ (0 : Int) + 30 ≤ 30) ∧ ((0 ≤ (0 : Int) ∧ 0 ≤ (0 : Int) ∧ 0 ≤ (30 : Int) ∧ (0 : Int) + 30 ≤ 30 ∧ (0 : Int) + 30 ≤ 30) ∧ (iq_P N xs 127 68 [some (iq_r 26), some (iq_r 64)] [] (iq_uz (iq_rz (iq_rz (iq_rz (iq_rz g 27 (iq_cz (g 65) (g 27) 0 0 30)) 28 (iq_cz (g 66) (g 28) 0 0 30)) 29 (iq_cz (g 67) (g 29) 0 0 30)) 30 (iq_cz (g 68) (g 30) 0 0 30)) 26 4 (g 64 4)) l Q))))) :
    iq_P N xs 127 0 [some (iq_r 26), some (iq_r 64)] [] g l Q := iq_w_ok (cuts := [68]) 36 0 _ _ _ _ H

-- ScaleForge$Studies.becomes(LScaleForge$Studies;)V at 68
set_option maxRecDepth 20000 in
theorem B127_p68_26_64 {N : Nat} {xs : Nat → Int32} {Q : iq_T} (g : iq_I) (l : iq_J) (H : ((g 64 5) = 0 ∨ (g 64 5) = 1) ∧ (Q (none) (iq_uz g 26 5 (g 64 5)) l)) :
    iq_P N xs 127 68 [some (iq_r 26), some (iq_r 64)] [] g l Q := iq_w_ok (cuts := [68]) 5 68 _ _ _ _ H

-- ScaleForge$Studies.becomes(LScaleForge$Studies;)V at 0
set_option maxRecDepth 20000 in
theorem B127_26_72 {N : Nat} {xs : Nat → Int32} {Q : iq_T} (g : iq_I) (l : iq_J) (H : (0 ≤ (0 : Int) ∧ 0 ≤ (0 : Int) ∧ 0 ≤ (30 : Int) ∧ (0 : Int) + 30 ≤ 30 ∧ (0 : Int) + 30 ≤ 30) ∧ ((0 ≤ (0 : Int) ∧ 0 ≤ (0 : Int) ∧ 0 ≤ (30 : Int) ∧ (0 : Int) + 30 ≤ 30 ∧ (0 : Int) + 30 ≤ 30) ∧ ((0 ≤ (0 : Int) ∧ 0 ≤ (0 : Int) ∧ 0 ≤ (30 : Int) ∧ (0 : Int) + 30 ≤ 30 ∧ (0 : Int) + 30 ≤ 30) ∧ ((0 ≤ (0 : Int) ∧ 0 ≤ (0 : Int) ∧ 0 ≤ (30 : Int) ∧ (0 : Int) + 30 ≤ 30 ∧ (0 : Int) + 30 ≤ 30) ∧ (iq_P N xs 127 68 [some (iq_r 26), some (iq_r 72)] [] (iq_uz (iq_rz (iq_rz (iq_rz (iq_rz g 27 (iq_cz (g 73) (g 27) 0 0 30)) 28 (iq_cz (g 74) (g 28) 0 0 30)) 29 (iq_cz (g 75) (g 29) 0 0 30)) 30 (iq_cz (g 76) (g 30) 0 0 30)) 26 4 (g 72 4)) l Q))))) :
    iq_P N xs 127 0 [some (iq_r 26), some (iq_r 72)] [] g l Q := iq_w_ok (cuts := [68]) 36 0 _ _ _ _ H

-- ScaleForge$Studies.becomes(LScaleForge$Studies;)V at 68
set_option maxRecDepth 20000 in
theorem B127_p68_26_72 {N : Nat} {xs : Nat → Int32} {Q : iq_T} (g : iq_I) (l : iq_J) (H : ((g 72 5) = 0 ∨ (g 72 5) = 1) ∧ (Q (none) (iq_uz g 26 5 (g 72 5)) l)) :
    iq_P N xs 127 68 [some (iq_r 26), some (iq_r 72)] [] g l Q := iq_w_ok (cuts := [68]) 5 68 _ _ _ _ H
