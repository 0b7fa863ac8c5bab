/-! What must hold that a stretch of a method ends well: methods 83 to 182. -/
-- ScaleForge$Scale.setPart(II)V at 0
set_option maxRecDepth 20000 in
theorem B83_13 {N : Nat} {xs : Nat → Int32} {Q : iq_T} (a0 : Int) (a1 : Int) (g : iq_I) (l : iq_J) (H : (-2147483648 ≤ a0 ∧ a0 ≤ 2147483647) ∧
    (a0 < (0 : Int) → (Q (none) g l)) ∧
    ((0 : Int) ≤ a0 → ((-2147483648 ≤ a0 ∧ a0 ≤ 2147483647) ∧
      ((9 : Int) ≤ a0 → (Q (none) g l)) ∧
      (a0 < (9 : Int) → ((0 ≤ a0 ∧ a0 < 9) ∧ (Q (none) (iq_uz g 14 a0 a1) l)))))) :
    iq_P N xs 83 0 [some (iq_r 13), some (iq_i a0), some (iq_i a1)] [] g l Q := iq_w_ok (cuts := []) 13 0 _ _ _ _ H

-- ScaleForge$Scale.setPart(II)V at 0
set_option maxRecDepth 20000 in
theorem B83_23 {N : Nat} {xs : Nat → Int32} {Q : iq_T} (a0 : Int) (a1 : Int) (g : iq_I) (l : iq_J) (H : (-2147483648 ≤ a0 ∧ a0 ≤ 2147483647) ∧
    (a0 < (0 : Int) → (Q (none) g l)) ∧
    ((0 : Int) ≤ a0 → ((-2147483648 ≤ a0 ∧ a0 ≤ 2147483647) ∧
      ((9 : Int) ≤ a0 → (Q (none) g l)) ∧
      (a0 < (9 : Int) → ((0 ≤ a0 ∧ a0 < 9) ∧ (Q (none) (iq_uz g 24 a0 a1) l)))))) :
    iq_P N xs 83 0 [some (iq_r 23), some (iq_i a0), some (iq_i a1)] [] g l Q := iq_w_ok (cuts := []) 13 0 _ _ _ _ H

-- ScaleForge$Scale.becomes(LScaleForge$Scale;)V at 0
set_option maxRecDepth 20000 in
theorem B87_23_13 {N : Nat} {xs : Nat → Int32} {Q : iq_T} (g : iq_I) (l : iq_J) (H : (0 ≤ (0 : Int) ∧ 0 ≤ (0 : Int) ∧ 0 ≤ (9 : Int) ∧ (0 : Int) + 9 ≤ 9 ∧ (0 : Int) + 9 ≤ 9) ∧ ((0 ≤ (0 : Int) ∧ 0 ≤ (0 : Int) ∧ 0 ≤ (12 : Int) ∧ (0 : Int) + 12 ≤ 12 ∧ (0 : Int) + 12 ≤ 12) ∧ (Q (none) (iq_uz (iq_rz (iq_rz g 24 (iq_cz (g 14) (g 24) 0 0 9)) 25 (iq_cz (g 15) (g 25) 0 0 12)) 23 2 (g 13 2)) (iq_uz (iq_uz l 23 3 (l 13 3)) 23 4 (l 13 4))))) :
    iq_P N xs 87 0 [some (iq_r 23), some (iq_r 13)] [] g l Q := iq_w_ok (cuts := []) 29 0 _ _ _ _ H

-- ScaleForge$Scale.becomes(LScaleForge$Scale;)V at 0
set_option maxRecDepth 20000 in
theorem B87_44_23 {N : Nat} {xs : Nat → Int32} {Q : iq_T} (g : iq_I) (l : iq_J) (H : (0 ≤ (0 : Int) ∧ 0 ≤ (0 : Int) ∧ 0 ≤ (9 : Int) ∧ (0 : Int) + 9 ≤ 9 ∧ (0 : Int) + 9 ≤ 9) ∧ ((0 ≤ (0 : Int) ∧ 0 ≤ (0 : Int) ∧ 0 ≤ (12 : Int) ∧ (0 : Int) + 12 ≤ 12 ∧ (0 : Int) + 12 ≤ 12) ∧ (Q (none) (iq_uz (iq_rz (iq_rz g 45 (iq_cz (g 24) (g 45) 0 0 9)) 46 (iq_cz (g 25) (g 46) 0 0 12)) 44 2 (g 23 2)) (iq_uz (iq_uz l 44 3 (l 23 3)) 44 4 (l 23 4))))) :
    iq_P N xs 87 0 [some (iq_r 44), some (iq_r 23)] [] g l Q := iq_w_ok (cuts := []) 29 0 _ _ _ _ H

-- ScaleForge$Scale.degreesMany()I at 0
set_option maxRecDepth 20000 in
theorem B89_23 {N : Nat} {xs : Nat → Int32} {Q : iq_T} (g : iq_I) (l : iq_J) (H : iq_P N xs 88 0 [some (iq_l (l 23 4)), none] [] g l (fun r g1 l2 => ∃ z3, r = some (iq_i z3) ∧ (Q (some (iq_i z3)) g1 l2))) :
    iq_P N xs 89 0 [some (iq_r 23)] [] g l Q := iq_w_ok (cuts := []) 4 0 _ _ _ _ H

-- ScaleForge.give(I)I at 0
set_option maxRecDepth 20000 in
theorem B90_0 {N : Nat} {xs : Nat → Int32} {Q : iq_T} (a0 : Int) (g : iq_I) (l : iq_J) (H : Q (some (iq_i a0)) (iq_uz g 0 0 0) l) :
    iq_P N xs 90 0 [some (iq_r 0), some (iq_i a0)] [] g l Q := iq_w_ok (cuts := []) 5 0 _ _ _ _ H

-- java/lang/Math.min(II)I at 0
set_option maxRecDepth 20000 in
theorem B95 {N : Nat} {xs : Nat → Int32} {Q : iq_T} (a0 : Int) (a1 : Int) (g : iq_I) (l : iq_J) (H : (-2147483648 ≤ a0 ∧ a0 ≤ 2147483647 ∧ -2147483648 ≤ a1 ∧ a1 ≤ 2147483647) ∧
    (a1 < a0 → (Q (some (iq_i a1)) g l)) ∧
    (a0 ≤ a1 → (Q (some (iq_i a0)) g l))) :
    iq_P N xs 95 0 [some (iq_i a0), some (iq_i a1)] [] g l Q := iq_w_ok (cuts := []) 6 0 _ _ _ _ H

-- ScaleForgeModel.refuse(I)I at 0
set_option maxRecDepth 20000 in
theorem B98_77 {N : Nat} {xs : Nat → Int32} {Q : iq_T} (a0 : Int) (g : iq_I) (l : iq_J) (H : Q (some (iq_i (-1))) (iq_uz g 77 1 a0) l) :
    iq_P N xs 98 0 [some (iq_r 77), some (iq_i a0)] [] g l Q := iq_w_ok (cuts := []) 5 0 _ _ _ _ H

-- ScaleForgeModel.folded(II)I at 0
set_option maxRecDepth 20000 in
theorem B111 {N : Nat} {xs : Nat → Int32} {Q : iq_T} (a0 : Int) (a1 : Int) (g : iq_I) (l : iq_J) (H : (-2147483648 < a0 ∧ a0 ≤ 2147483647 ∧ -2147483648 ≤ a1 ∧ a1 ≤ 2147483647 ∧ ¬ a1 = 0) ∧ ((-2147483648 ≤ (Int.tmod a0 a1) ∧ (Int.tmod a0 a1) ≤ 2147483647) ∧
    ((0 : Int) ≤ (Int.tmod a0 a1) → (Q (some (iq_i (Int.tmod a0 a1))) g l)) ∧
    ((Int.tmod a0 a1) < (0 : Int) → (Q (some (iq_i ((Int.tmod a0 a1) + a1))) g l)))) :
    iq_P N xs 111 0 [some (iq_i a0), some (iq_i a1), none] [] g l Q := iq_w_ok (cuts := []) 11 0 _ _ _ _ H

-- ScaleForgeModel.chainBy(II)I at 0
set_option maxRecDepth 20000 in
theorem B112_77 {N : Nat} {xs : Nat → Int32} {Q : iq_T} (a0 : Int) (a1 : Int) (g : iq_I) (l : iq_J) (H : iq_P N xs 111 0 [some (iq_i ((g 78 5) + ((a0 - (g 78 4)) * a1))), some (iq_i (g 78 1)), none] [] g l (fun r g1 l2 => ∃ z3, r = some (iq_i z3) ∧ (Q (some (iq_i z3)) g1 l2))) :
    iq_P N xs 112 0 [some (iq_r 77), some (iq_i a0), some (iq_i a1)] [] g l Q := iq_w_ok (cuts := []) 19 0 _ _ _ _ H

-- ScaleForgeModel.lays(II)V at 0
set_option maxRecDepth 20000 in
theorem B113_77 {N : Nat} {xs : Nat → Int32} {Q : iq_T} (a0 : Int) (a1 : Int) (g : iq_I) (l : iq_J) (H : iq_P N xs 113 20 [some (iq_r 77), some (iq_i a0), some (iq_i a1), some (iq_i (g 78 1)), some (iq_i 0), none, none] [] (iq_uz (iq_uz g 77 26 0) 77 27 0) l Q) :
    iq_P N xs 113 0 [some (iq_r 77), some (iq_i a0), some (iq_i a1), none, none, none, none] [] g l Q := iq_w_ok (cuts := [20, 44, 72, 133, 197, 209]) 13 0 _ _ _ _ H

-- ScaleForgeModel.lays(II)V at 20
set_option maxRecDepth 20000 in
theorem B113_p20_77 {N : Nat} {xs : Nat → Int32} {Q : iq_T} (v1 : Int) (v2 : Int) (v3 : Int) (v4 : Int) (g : iq_I) (l : iq_J) (H : (-2147483648 ≤ v4 ∧ v4 ≤ 2147483647) ∧
    ((60 : Int) ≤ v4 → (iq_P N xs 113 44 [some (iq_r 77), some (iq_i v1), some (iq_i v2), some (iq_i v3), some (iq_i 0), none, none] [] g l Q)) ∧
    (v4 < (60 : Int) → ((0 ≤ v4 ∧ v4 < 60) ∧ (iq_P N xs 113 20 [some (iq_r 77), some (iq_i v1), some (iq_i v2), some (iq_i v3), some (iq_i (v4 + 1)), none, none] [] (iq_uz g 87 v4 (-1)) l Q)))) :
    iq_P N xs 113 20 [some (iq_r 77), some (iq_i v1), some (iq_i v2), some (iq_i v3), some (iq_i v4), none, none] [] g l Q := iq_w_ok (cuts := [20, 44, 72, 133, 197, 209]) 10 20 _ _ _ _ H

-- ScaleForgeModel.lays(II)V at 44
set_option maxRecDepth 20000 in
theorem B113_p44_77 {N : Nat} {xs : Nat → Int32} {Q : iq_T} (v1 : Int) (v2 : Int) (v3 : Int) (v4 : Int) (g : iq_I) (l : iq_J) (H : (-2147483648 ≤ v4 ∧ v4 ≤ 2147483647 ∧ -2147483648 ≤ v1 ∧ v1 ≤ 2147483647) ∧
    (v1 ≤ v4 → (iq_P N xs 113 72 [some (iq_r 77), some (iq_i v1), some (iq_i v2), some (iq_i v3), some (iq_i 0), none, none] [] g l Q)) ∧
    (v4 < v1 → (iq_P N xs 112 0 [some (iq_r 77), some (iq_i v4), some (iq_i v2)] [] g l (fun r g1 l2 => ∃ z3, r = some (iq_i z3) ∧ ((0 ≤ z3 ∧ z3 < 60) ∧ (iq_P N xs 113 44 [some (iq_r 77), some (iq_i v1), some (iq_i v2), some (iq_i v3), some (iq_i (v4 + 1)), none, none] [] (iq_uz g1 87 z3 0) l2 Q)))))) :
    iq_P N xs 113 44 [some (iq_r 77), some (iq_i v1), some (iq_i v2), some (iq_i v3), some (iq_i v4), none, none] [] g l Q := iq_w_ok (cuts := [20, 44, 72, 133, 197, 209]) 13 44 _ _ _ _ H

-- ScaleForgeModel.lays(II)V at 72
set_option maxRecDepth 20000 in
theorem B113_p72_77 {N : Nat} {xs : Nat → Int32} {Q : iq_T} (v1 : Int) (v2 : Int) (v3 : Int) (v4 : Int) (g : iq_I) (l : iq_J) (H : (-2147483648 ≤ v4 ∧ v4 ≤ 2147483647 ∧ -2147483648 ≤ v3 ∧ v3 ≤ 2147483647) ∧
    (v3 ≤ v4 → (iq_P N xs 113 133 [some (iq_r 77), some (iq_i v1), some (iq_i v2), some (iq_i v3), some (iq_i 0), none, none] [] g l Q)) ∧
    (v4 < v3 → ((0 ≤ v4 ∧ v4 < 60) ∧ ((-2147483648 ≤ (g 87 v4) ∧ (g 87 v4) ≤ 2147483647) ∧
      (¬ (g 87 v4) = (-1 : Int) → ((0 ≤ v4 ∧ v4 < 60) ∧ ((0 ≤ (g 77 26) ∧ (g 77 26) < 24) ∧ (iq_P N xs 113 72 [some (iq_r 77), some (iq_i v1), some (iq_i v2), some (iq_i v3), some (iq_i (v4 + 1)), none, none] [] (iq_uz (iq_uz (iq_uz g 87 v4 (g 77 26)) 85 (g 77 26) v4) 77 26 ((g 77 26) + 1)) l Q)))) ∧
      ((g 87 v4) = (-1 : Int) → (iq_P N xs 113 72 [some (iq_r 77), some (iq_i v1), some (iq_i v2), some (iq_i v3), some (iq_i (v4 + 1)), none, none] [] g l Q)))))) :
    iq_P N xs 113 72 [some (iq_r 77), some (iq_i v1), some (iq_i v2), some (iq_i v3), some (iq_i v4), none, none] [] g l Q := iq_w_ok (cuts := [20, 44, 72, 133, 197, 209]) 29 72 _ _ _ _ H

-- ScaleForgeModel.lays(II)V at 133
set_option maxRecDepth 20000 in
theorem B113_p133_77 {N : Nat} {xs : Nat → Int32} {Q : iq_T} (v1 : Int) (v2 : Int) (v3 : Int) (v4 : Int) (d5 : Option iq_V) (g : iq_I) (l : iq_J) (H : (-2147483648 ≤ v4 ∧ v4 ≤ 2147483647 ∧ -2147483648 ≤ (g 77 26) ∧ (g 77 26) ≤ 2147483647) ∧
    ((g 77 26) ≤ v4 → (iq_P N xs 113 197 [some (iq_r 77), some (iq_i v1), some (iq_i v2), some (iq_i v3), some (iq_i 1), (iq_nv d5), none] [] g l Q)) ∧
    (v4 < (g 77 26) → ((-2147483648 < (v4 + 1) ∧ (v4 + 1) ≤ 2147483647 ∧ -2147483648 ≤ (g 77 26) ∧ (g 77 26) ≤ 2147483647 ∧ ¬ (g 77 26) = 0) ∧ ((0 ≤ (Int.tmod (v4 + 1) (g 77 26)) ∧ (Int.tmod (v4 + 1) (g 77 26)) < 24) ∧ ((0 ≤ v4 ∧ v4 < 24) ∧ (iq_P N xs 111 0 [some (iq_i ((g 85 (Int.tmod (v4 + 1) (g 77 26))) - (g 85 v4))), some (iq_i v3), none] [] g l (fun r g1 l2 => ∃ z3, r = some (iq_i z3) ∧ ((-2147483648 ≤ z3 ∧ z3 ≤ 2147483647) ∧
        (¬ z3 = (0 : Int) → ((0 ≤ v4 ∧ v4 < 24) ∧ (iq_P N xs 113 133 [some (iq_r 77), some (iq_i v1), some (iq_i v2), some (iq_i v3), some (iq_i (v4 + 1)), some (iq_i z3), none] [] (iq_uz g1 86 v4 z3) l2 Q))) ∧
        (z3 = (0 : Int) → ((0 ≤ v4 ∧ v4 < 24) ∧ (iq_P N xs 113 133 [some (iq_r 77), some (iq_i v1), some (iq_i v2), some (iq_i v3), some (iq_i (v4 + 1)), some (iq_i z3), none] [] (iq_uz g1 86 v4 v3) l2 Q))))))))))) :
    iq_P N xs 113 133 [some (iq_r 77), some (iq_i v1), some (iq_i v2), some (iq_i v3), some (iq_i v4), d5, none] [] g l Q := iq_w_ok (cuts := [20, 44, 72, 133, 197, 209]) 31 133 _ _ _ _ H

-- ScaleForgeModel.lays(II)V at 197
set_option maxRecDepth 20000 in
theorem B113_p197_77 {N : Nat} {xs : Nat → Int32} {Q : iq_T} (v1 : Int) (v2 : Int) (v3 : Int) (v4 : Int) (d5 : Option iq_V) (d6 : Option iq_V) (g : iq_I) (l : iq_J) (H : (-2147483648 ≤ v4 ∧ v4 ≤ 2147483647 ∧ -2147483648 ≤ v3 ∧ v3 ≤ 2147483647) ∧
    (v3 < v4 → (Q (none) g l)) ∧
    (v4 ≤ v3 → (iq_P N xs 113 209 [some (iq_r 77), some (iq_i v1), some (iq_i v2), some (iq_i v3), some (iq_i v4), some (iq_i 0), some (iq_i 0)] [] g l Q))) :
    iq_P N xs 113 197 [some (iq_r 77), some (iq_i v1), some (iq_i v2), some (iq_i v3), some (iq_i v4), d5, d6] [] g l Q := iq_w_ok (cuts := [20, 44, 72, 133, 197, 209]) 7 197 _ _ _ _ H

-- ScaleForgeModel.lays(II)V at 209
set_option maxRecDepth 20000 in
theorem B113_p209_77 {N : Nat} {xs : Nat → Int32} {Q : iq_T} (v1 : Int) (v2 : Int) (v3 : Int) (v4 : Int) (v5 : Int) (v6 : Int) (g : iq_I) (l : iq_J) (H : (-2147483648 ≤ v6 ∧ v6 ≤ 2147483647 ∧ -2147483648 ≤ (g 77 26) ∧ (g 77 26) ≤ 2147483647) ∧
    ((g 77 26) ≤ v6 → ((-2147483648 ≤ v5 ∧ v5 ≤ 2147483647) ∧
      (¬ v5 = (0 : Int) → ((0 ≤ (g 77 27) ∧ (g 77 27) < 24) ∧ (iq_P N xs 113 197 [some (iq_r 77), some (iq_i v1), some (iq_i v2), some (iq_i v3), some (iq_i (v4 + 1)), some (iq_i v5), some (iq_i v6)] [] (iq_uz (iq_uz g 88 (g 77 27) v4) 77 27 ((g 77 27) + 1)) l Q))) ∧
      (v5 = (0 : Int) → (iq_P N xs 113 197 [some (iq_r 77), some (iq_i v1), some (iq_i v2), some (iq_i v3), some (iq_i (v4 + 1)), some (iq_i v5), some (iq_i v6)] [] g l Q)))) ∧
    (v6 < (g 77 26) → ((-2147483648 ≤ v5 ∧ v5 ≤ 2147483647) ∧
      (¬ v5 = (0 : Int) → (iq_P N xs 113 209 [some (iq_r 77), some (iq_i v1), some (iq_i v2), some (iq_i v3), some (iq_i v4), some (iq_i 1), some (iq_i (v6 + 1))] [] g l Q)) ∧
      (v5 = (0 : Int) → ((0 ≤ v6 ∧ v6 < 24) ∧ ((-2147483648 ≤ (g 86 v6) ∧ (g 86 v6) ≤ 2147483647 ∧ -2147483648 ≤ v4 ∧ v4 ≤ 2147483647) ∧
        (¬ (g 86 v6) = v4 → (iq_P N xs 113 209 [some (iq_r 77), some (iq_i v1), some (iq_i v2), some (iq_i v3), some (iq_i v4), some (iq_i 0), some (iq_i (v6 + 1))] [] g l Q)) ∧
        ((g 86 v6) = v4 → (iq_P N xs 113 209 [some (iq_r 77), some (iq_i v1), some (iq_i v2), some (iq_i v3), some (iq_i v4), some (iq_i 1), some (iq_i (v6 + 1))] [] g l Q)))))))) :
    iq_P N xs 113 209 [some (iq_r 77), some (iq_i v1), some (iq_i v2), some (iq_i v3), some (iq_i v4), some (iq_i v5), some (iq_i v6)] [] g l Q := iq_w_ok (cuts := [20, 44, 72, 133, 197, 209]) 20 209 _ _ _ _ H

-- ScaleForgeModel.laysScale()V at 0
set_option maxRecDepth 20000 in
theorem B114_77 {N : Nat} {xs : Nat → Int32} {Q : iq_T} (g : iq_I) (l : iq_J) (H : iq_P N xs 113 0 [some (iq_r 77), some (iq_i (g 78 3)), some (iq_i (g 78 2)), none, none, none, none] [] g l (fun r g1 l2 => r = none ∧ (Q (none) g1 l2))) :
    iq_P N xs 114 0 [some (iq_r 77)] [] g l Q := iq_w_ok (cuts := []) 11 0 _ _ _ _ H

-- ScaleForgeModel.gives(I)I at 0
set_option maxRecDepth 20000 in
theorem B115_77 {N : Nat} {xs : Nat → Int32} {Q : iq_T} (a0 : Int) (g : iq_I) (l : iq_J) (H : Q (some (iq_i a0)) (iq_uz g 77 1 0) l) :
    iq_P N xs 115 0 [some (iq_r 77), some (iq_i a0)] [] g l Q := iq_w_ok (cuts := []) 5 0 _ _ _ _ H

-- ScaleForge.fault(I)I at 0
set_option maxRecDepth 20000 in
theorem B133_0 {N : Nat} {xs : Nat → Int32} {Q : iq_T} (a0 : Int) (g : iq_I) (l : iq_J) (H : (-2147483648 ≤ a0 ∧ a0 ≤ 2147483647) ∧
    (¬ a0 = (0 : Int) → ((-2147483648 ≤ a0 ∧ a0 ≤ 2147483647) ∧
      (¬ a0 = (1 : Int) → (Q (some (iq_i (-1))) g l)) ∧
      (a0 = (1 : Int) → (Q (some (iq_i (g 10 8))) g l)))) ∧
    (a0 = (0 : Int) → (Q (some (iq_i (g 10 7))) g l))) :
    iq_P N xs 133 0 [some (iq_r 0), some (iq_i a0)] [] g l Q := iq_w_ok (cuts := []) 10 0 _ _ _ _ H

-- ScaleForgeModel.fault(I)I at 0
set_option maxRecDepth 20000 in
theorem B134_77 {N : Nat} {xs : Nat → Int32} {Q : iq_T} (a0 : Int) (g : iq_I) (l : iq_J) (H : (-2147483648 ≤ a0 ∧ a0 ≤ 2147483647) ∧
    (¬ a0 = (0 : Int) → ((-2147483648 ≤ a0 ∧ a0 ≤ 2147483647) ∧
      (¬ a0 = (1 : Int) → (Q (some (iq_i (-1))) g l)) ∧
      (a0 = (1 : Int) → (Q (some (iq_i (g 77 16))) g l)))) ∧
    (a0 = (0 : Int) → (Q (some (iq_i (g 77 15))) g l))) :
    iq_P N xs 134 0 [some (iq_r 77), some (iq_i a0)] [] g l Q := iq_w_ok (cuts := []) 9 0 _ _ _ _ H

-- ScaleForge$Scale.part(I)I at 0
set_option maxRecDepth 20000 in
theorem B135_23 {N : Nat} {xs : Nat → Int32} {Q : iq_T} (a0 : Int) (g : iq_I) (l : iq_J) (H : (-2147483648 ≤ a0 ∧ a0 ≤ 2147483647) ∧
    (a0 < (0 : Int) → (Q (some (iq_i 0)) g l)) ∧
    ((0 : Int) ≤ a0 → ((-2147483648 ≤ a0 ∧ a0 ≤ 2147483647) ∧
      ((9 : Int) ≤ a0 → (Q (some (iq_i 0)) g l)) ∧
      (a0 < (9 : Int) → ((0 ≤ a0 ∧ a0 < 9) ∧ (Q (some (iq_i (g 24 a0))) g l)))))) :
    iq_P N xs 135 0 [some (iq_r 23), some (iq_i a0)] [] g l Q := iq_w_ok (cuts := []) 13 0 _ _ _ _ H

-- ScaleForge$Scale.part(I)I at 0
set_option maxRecDepth 20000 in
theorem B135_44 {N : Nat} {xs : Nat → Int32} {Q : iq_T} (a0 : Int) (g : iq_I) (l : iq_J) (H : (-2147483648 ≤ a0 ∧ a0 ≤ 2147483647) ∧
    (a0 < (0 : Int) → (Q (some (iq_i 0)) g l)) ∧
    ((0 : Int) ≤ a0 → ((-2147483648 ≤ a0 ∧ a0 ≤ 2147483647) ∧
      ((9 : Int) ≤ a0 → (Q (some (iq_i 0)) g l)) ∧
      (a0 < (9 : Int) → ((0 ≤ a0 ∧ a0 < 9) ∧ (Q (some (iq_i (g 45 a0))) g l)))))) :
    iq_P N xs 135 0 [some (iq_r 44), some (iq_i a0)] [] g l Q := iq_w_ok (cuts := []) 13 0 _ _ _ _ H

-- ScaleForge$Ring.gather(JI)V at 0
set_option maxRecDepth 20000 in
theorem B136_31 {N : Nat} {xs : Nat → Int32} {Q : iq_T} (a0 : Int64) (a1 : Int) (g : iq_I) (l : iq_J) (H : iq_P N xs 136 18 [some (iq_r 31), some (iq_l a0), none, some (iq_i a1), some (iq_i 0)] [] (iq_uz (iq_uz g 31 2 a1) 31 3 0) (iq_uz l 31 1 a0) Q) :
    iq_P N xs 136 0 [some (iq_r 31), some (iq_l a0), none, some (iq_i a1), none] [] g l Q := iq_w_ok (cuts := [18]) 11 0 _ _ _ _ H

-- ScaleForge$Ring.gather(JI)V at 18
set_option maxRecDepth 20000 in
theorem B136_p18_31 {N : Nat} {xs : Nat → Int32} {Q : iq_T} (v1 : Int64) (v3 : Int) (v4 : Int) (g : iq_I) (l : iq_J) (H : (-2147483648 ≤ v4 ∧ v4 ≤ 2147483647 ∧ -2147483648 ≤ v3 ∧ v3 ≤ 2147483647) ∧
    (v3 ≤ v4 → (Q (none) g l)) ∧
    (v4 < v3 → ((-2147483648 ≤ (g 31 3) ∧ (g 31 3) ≤ 2147483647) ∧
      ((60 : Int) ≤ (g 31 3) → (Q (none) g l)) ∧
      ((g 31 3) < (60 : Int) → (iq_P N xs 74 0 [some (iq_l v1), none, some (iq_i v4)] [] g l (fun r g1 l2 => ∃ z3, r = some (iq_i z3) ∧ ((-2147483648 ≤ z3 ∧ z3 ≤ 2147483647) ∧
          (z3 = (0 : Int) → (iq_P N xs 136 18 [some (iq_r 31), some (iq_l v1), none, some (iq_i v3), some (iq_i (v4 + 1))] [] g1 l2 Q)) ∧
          (¬ z3 = (0 : Int) → ((0 ≤ (g1 31 3) ∧ (g1 31 3) < 60) ∧ (iq_P N xs 136 18 [some (iq_r 31), some (iq_l v1), none, some (iq_i v3), some (iq_i (v4 + 1))] [] (iq_uz (iq_uz g1 32 (g1 31 3) v4) 31 3 ((g1 31 3) + 1)) l2 Q)))))))))) :
    iq_P N xs 136 18 [some (iq_r 31), some (iq_l v1), none, some (iq_i v3), some (iq_i v4)] [] g l Q := iq_w_ok (cuts := [18]) 27 18 _ _ _ _ H

-- ScaleForge.degreesRing()LScaleForge$Ring; at 0
set_option maxRecDepth 20000 in
theorem B137_0 {N : Nat} {xs : Nat → Int32} {Q : iq_T} (g : iq_I) (l : iq_J) (H : iq_P N xs 80 0 [some (iq_r 23)] [] g l (fun r g1 l2 => ∃ z3, r = some (iq_i z3) ∧ (iq_P N xs 136 0 [some (iq_r 31), some (iq_l (l 23 4)), none, some (iq_i z3), none] [] g1 l2 (fun r g4 l5 => r = none ∧ (Q (some (iq_r 31)) g4 l5))))) :
    iq_P N xs 137 0 [some (iq_r 0)] [] g l Q := iq_w_ok (cuts := []) 12 0 _ _ _ _ H

-- ScaleForge$Ring.toneAt(I)I at 0
set_option maxRecDepth 20000 in
theorem B138_31 {N : Nat} {xs : Nat → Int32} {Q : iq_T} (a0 : Int) (g : iq_I) (l : iq_J) (H : (-2147483648 ≤ a0 ∧ a0 ≤ 2147483647) ∧
    (a0 < (0 : Int) → (Q (some (iq_i (-1))) g l)) ∧
    ((0 : Int) ≤ a0 → ((-2147483648 ≤ a0 ∧ a0 ≤ 2147483647 ∧ -2147483648 ≤ (g 31 3) ∧ (g 31 3) ≤ 2147483647) ∧
      ((g 31 3) ≤ a0 → (Q (some (iq_i (-1))) g l)) ∧
      (a0 < (g 31 3) → ((-2147483648 ≤ a0 ∧ a0 ≤ 2147483647) ∧
        ((60 : Int) ≤ a0 → (Q (some (iq_i (-1))) g l)) ∧
        (a0 < (60 : Int) → ((0 ≤ a0 ∧ a0 < 60) ∧ (Q (some (iq_i (g 32 a0))) g l)))))))) :
    iq_P N xs 138 0 [some (iq_r 31), some (iq_i a0)] [] g l Q := iq_w_ok (cuts := []) 17 0 _ _ _ _ H

-- ScaleForge$Ring.between(II)I at 0
set_option maxRecDepth 20000 in
theorem B139_31 {N : Nat} {xs : Nat → Int32} {Q : iq_T} (a0 : Int) (a1 : Int) (g : iq_I) (l : iq_J) (H : iq_P N xs 138 0 [some (iq_r 31), some (iq_i a1)] [] g l (fun r g1 l2 => ∃ z3, r = some (iq_i z3) ∧ (iq_P N xs 138 0 [some (iq_r 31), some (iq_i a0)] [] g1 l2 (fun r g4 l5 => ∃ z6, r = some (iq_i z6) ∧ ((-2147483648 ≤ (z3 - z6) ∧ (z3 - z6) ≤ 2147483647) ∧
        ((0 : Int) ≤ (z3 - z6) → (Q (some (iq_i (z3 - z6))) g4 l5)) ∧
        ((z3 - z6) < (0 : Int) → (Q (some (iq_i ((z3 - z6) + (g4 31 2)))) g4 l5))))))) :
    iq_P N xs 139 0 [some (iq_r 31), some (iq_i a0), some (iq_i a1), none] [] g l Q := iq_w_ok (cuts := []) 16 0 _ _ _ _ H

-- ScaleForge$Ring.spanFrom(II)I at 0
set_option maxRecDepth 20000 in
theorem B140_31 {N : Nat} {xs : Nat → Int32} {Q : iq_T} (a0 : Int) (a1 : Int) (g : iq_I) (l : iq_J) (H : (-2147483648 ≤ (g 31 3) ∧ (g 31 3) ≤ 2147483647) ∧
    ((1 : Int) ≤ (g 31 3) → ((-2147483648 < a1 ∧ a1 ≤ 2147483647 ∧ -2147483648 ≤ (g 31 3) ∧ (g 31 3) ≤ 2147483647 ∧ ¬ (g 31 3) = 0) ∧ ((-2147483648 < (a0 + a1) ∧ (a0 + a1) ≤ 2147483647 ∧ -2147483648 ≤ (g 31 3) ∧ (g 31 3) ≤ 2147483647 ∧ ¬ (g 31 3) = 0) ∧ (iq_P N xs 139 0 [some (iq_r 31), some (iq_i a0), some (iq_i (Int.tmod (a0 + a1) (g 31 3))), none] [] g l (fun r g1 l2 => ∃ z3, r = some (iq_i z3) ∧ (Q (some (iq_i (((Int.tdiv a1 (g 31 3)) * (g 31 2)) + z3))) g1 l2)))))) ∧
    ((g 31 3) < (1 : Int) → (Q (some (iq_i 0)) g l))) :
    iq_P N xs 140 0 [some (iq_r 31), some (iq_i a0), some (iq_i a1)] [] g l Q := iq_w_ok (cuts := []) 22 0 _ _ _ _ H

-- ScaleForge$Ring.sizes()J at 0
set_option maxRecDepth 20000 in
theorem B141_31 {N : Nat} {xs : Nat → Int32} {Q : iq_T} (g : iq_I) (l : iq_J) (H : iq_P N xs 141 4 [some (iq_r 31), some (iq_l (0 : Int64)), none, some (iq_i 0)] [] g l Q) :
    iq_P N xs 141 0 [some (iq_r 31), none, none, none] [] g l Q := iq_w_ok (cuts := [4]) 4 0 _ _ _ _ H

-- ScaleForge$Ring.sizes()J at 4
set_option maxRecDepth 20000 in
theorem B141_p4_31 {N : Nat} {xs : Nat → Int32} {Q : iq_T} (v1 : Int64) (v3 : Int) (g : iq_I) (l : iq_J) (H : (-2147483648 ≤ v3 ∧ v3 ≤ 2147483647 ∧ -2147483648 ≤ (g 31 3) ∧ (g 31 3) ≤ 2147483647) ∧
    ((g 31 3) ≤ v3 → (Q (some (iq_l v1)) g l)) ∧
    (v3 < (g 31 3) → (iq_P N xs 140 0 [some (iq_r 31), some (iq_i v3), some (iq_i 1)] [] g l (fun r g1 l2 => ∃ z3, r = some (iq_i z3) ∧ (iq_P N xs 6 0 [some (iq_i z3)] [] g1 l2 (fun r g4 l5 => ∃ x6, r = some (iq_l x6) ∧ (iq_P N xs 141 4 [some (iq_r 31), some (iq_l (v1 ||| x6)), none, some (iq_i (v3 + 1))] [] g4 l5 Q))))))) :
    iq_P N xs 141 4 [some (iq_r 31), some (iq_l v1), none, some (iq_i v3)] [] g l Q := iq_w_ok (cuts := [4]) 14 4 _ _ _ _ H

-- ScaleForge.told(I)I at 0
set_option maxRecDepth 20000 in
theorem B142_0 {N : Nat} {xs : Nat → Int32} {Q : iq_T} (a0 : Int) (g : iq_I) (l : iq_J) (H : (-2147483648 ≤ a0 ∧ a0 ≤ 2147483647) ∧
    (a0 < (0 : Int) → ((-2147483648 ≤ a0 ∧ a0 ≤ 2147483647 ∧ (11 : Int) - 9 + 1 = 3) ∧ (
      (a0 = 9 → (iq_P N xs 89 0 [some (iq_r 23)] [] g l (fun r g1 l2 => ∃ z3, r = some (iq_i z3) ∧ (iq_P N xs 90 0 [some (iq_r 0), some (iq_i z3)] [] g1 l2 (fun r g4 l5 => ∃ z6, r = some (iq_i z6) ∧ (Q (some (iq_i z6)) g4 l5)))))) ∧
      (a0 = 10 → (iq_P N xs 137 0 [some (iq_r 0)] [] g l (fun r g7 l8 => iq_P N xs 142 69 [some (iq_r 0), some (iq_i a0)] (r.toList ++ [iq_r 0]) g7 l8 Q))) ∧
      (a0 = 11 → (iq_P N xs 88 0 [some (iq_l (l 23 3)), none] [] g l (fun r g9 l10 => ∃ z11, r = some (iq_i z11) ∧ (iq_P N xs 90 0 [some (iq_r 0), some (iq_i z11)] [] g9 l10 (fun r g12 l13 => ∃ z14, r = some (iq_i z14) ∧ (Q (some (iq_i z14)) g12 l13)))))) ∧ True) ∧
      ((a0 < 9 ∨ 11 < a0) → (iq_P N xs 44 0 [some (iq_r 0), some (iq_i 1)] [] g l (fun r g15 l16 => ∃ z17, r = some (iq_i z17) ∧ (Q (some (iq_i z17)) g15 l16)))))) ∧
    ((0 : Int) ≤ a0 → ((-2147483648 ≤ a0 ∧ a0 ≤ 2147483647) ∧
      ((9 : Int) ≤ a0 → ((-2147483648 ≤ a0 ∧ a0 ≤ 2147483647 ∧ (11 : Int) - 9 + 1 = 3) ∧ (
        (a0 = 9 → (iq_P N xs 89 0 [some (iq_r 23)] [] g l (fun r g18 l19 => ∃ z20, r = some (iq_i z20) ∧ (iq_P N xs 90 0 [some (iq_r 0), some (iq_i z20)] [] g18 l19 (fun r g21 l22 => ∃ z23, r = some (iq_i z23) ∧ (Q (some (iq_i z23)) g21 l22)))))) ∧
        (a0 = 10 → (iq_P N xs 137 0 [some (iq_r 0)] [] g l (fun r g24 l25 => iq_P N xs 142 69 [some (iq_r 0), some (iq_i a0)] (r.toList ++ [iq_r 0]) g24 l25 Q))) ∧
        (a0 = 11 → (iq_P N xs 88 0 [some (iq_l (l 23 3)), none] [] g l (fun r g26 l27 => ∃ z28, r = some (iq_i z28) ∧ (iq_P N xs 90 0 [some (iq_r 0), some (iq_i z28)] [] g26 l27 (fun r g29 l30 => ∃ z31, r = some (iq_i z31) ∧ (Q (some (iq_i z31)) g29 l30)))))) ∧ True) ∧
        ((a0 < 9 ∨ 11 < a0) → (iq_P N xs 44 0 [some (iq_r 0), some (iq_i 1)] [] g l (fun r g32 l33 => ∃ z34, r = some (iq_i z34) ∧ (Q (some (iq_i z34)) g32 l33)))))) ∧
      (a0 < (9 : Int) → (iq_P N xs 135 0 [some (iq_r 23), some (iq_i a0)] [] g l (fun r g35 l36 => ∃ z37, r = some (iq_i z37) ∧ (iq_P N xs 90 0 [some (iq_r 0), some (iq_i z37)] [] g35 l36 (fun r g38 l39 => ∃ z40, r = some (iq_i z40) ∧ (Q (some (iq_i z40)) g38 l39))))))))) :
    iq_P N xs 142 0 [some (iq_r 0), some (iq_i a0)] [] g l Q := iq_w_ok (cuts := []) 14 0 _ _ _ _ H

-- ScaleForge.told(I)I at 69
set_option maxRecDepth 20000 in
theorem B142_q69_31 {N : Nat} {xs : Nat → Int32} {Q : iq_T} (v1 : Int) (g : iq_I) (l : iq_J) (H : iq_P N xs 141 0 [some (iq_r 31), none, none, none] [] g l (fun r g1 l2 => ∃ x3, r = some (iq_l x3) ∧ (iq_P N xs 88 0 [some (iq_l x3), none] [] g1 l2 (fun r g4 l5 => ∃ z6, r = some (iq_i z6) ∧ (iq_P N xs 90 0 [some (iq_r 0), some (iq_i z6)] [] g4 l5 (fun r g7 l8 => ∃ z9, r = some (iq_i z9) ∧ (Q (some (iq_i z9)) g7 l8))))))) :
    iq_P N xs 142 69 [some (iq_r 0), some (iq_i v1)] [iq_r 31, iq_r 0] g l Q := iq_w_ok (cuts := []) 4 69 _ _ _ _ H

-- ScaleForgeModel.sounds(I)I at 0
set_option maxRecDepth 20000 in
theorem B143_77 {N : Nat} {xs : Nat → Int32} {Q : iq_T} (a0 : Int) (g : iq_I) (l : iq_J) (H : (0 ≤ (20 + a0) ∧ (20 + a0) < 2392) ∧ (Q (some (iq_i (g 78 (20 + a0)))) g l)) :
    iq_P N xs 143 0 [some (iq_r 77), some (iq_i a0)] [] g l Q := iq_w_ok (cuts := []) 7 0 _ _ _ _ H

-- ScaleForgeModel.soundMany()I at 0
set_option maxRecDepth 20000 in
theorem B144_77 {N : Nat} {xs : Nat → Int32} {Q : iq_T} (g : iq_I) (l : iq_J) (H : iq_P N xs 144 4 [some (iq_r 77), some (iq_i 0), some (iq_i 0)] [] g l Q) :
    iq_P N xs 144 0 [some (iq_r 77), none, none] [] g l Q := iq_w_ok (cuts := [4]) 4 0 _ _ _ _ H

-- ScaleForgeModel.soundMany()I at 4
set_option maxRecDepth 20000 in
theorem B144_p4_77 {N : Nat} {xs : Nat → Int32} {Q : iq_T} (v1 : Int) (v2 : Int) (g : iq_I) (l : iq_J) (H : (-2147483648 ≤ v2 ∧ v2 ≤ 2147483647) ∧
    ((60 : Int) ≤ v2 → (Q (some (iq_i v1)) g l)) ∧
    (v2 < (60 : Int) → (iq_P N xs 143 0 [some (iq_r 77), some (iq_i v2)] [] g l (fun r g1 l2 => ∃ z3, r = some (iq_i z3) ∧ (iq_P N xs 144 4 [some (iq_r 77), some (iq_i (v1 + z3)), some (iq_i (v2 + 1))] [] g1 l2 Q))))) :
    iq_P N xs 144 4 [some (iq_r 77), some (iq_i v1), some (iq_i v2)] [] g l Q := iq_w_ok (cuts := [4]) 11 4 _ _ _ _ H

-- ScaleForgeModel.told(I)I at 0
set_option maxRecDepth 20000 in
theorem B145_77 {N : Nat} {xs : Nat → Int32} {Q : iq_T} (a0 : Int) (g : iq_I) (l : iq_J) (H : (-2147483648 ≤ a0 ∧ a0 ≤ 2147483647) ∧
    (a0 < (0 : Int) → (iq_P N xs 114 0 [some (iq_r 77)] [] g l (fun r g1 l2 => r = none ∧ ((-2147483648 ≤ a0 ∧ a0 ≤ 2147483647 ∧ (11 : Int) - 9 + 1 = 3) ∧ (
        (a0 = 9 → (iq_P N xs 115 0 [some (iq_r 77), some (iq_i (g1 77 26))] [] g1 l2 (fun r g3 l4 => ∃ z5, r = some (iq_i z5) ∧ (Q (some (iq_i z5)) g3 l4)))) ∧
        (a0 = 10 → (iq_P N xs 115 0 [some (iq_r 77), some (iq_i (g1 77 27))] [] g1 l2 (fun r g6 l7 => ∃ z8, r = some (iq_i z8) ∧ (Q (some (iq_i z8)) g6 l7)))) ∧
        (a0 = 11 → (iq_P N xs 144 0 [some (iq_r 77), none, none] [] g1 l2 (fun r g9 l10 => ∃ z11, r = some (iq_i z11) ∧ (iq_P N xs 115 0 [some (iq_r 77), some (iq_i z11)] [] g9 l10 (fun r g12 l13 => ∃ z14, r = some (iq_i z14) ∧ (Q (some (iq_i z14)) g12 l13)))))) ∧ True) ∧
        ((a0 < 9 ∨ 11 < a0) → (iq_P N xs 98 0 [some (iq_r 77), some (iq_i 1)] [] g1 l2 (fun r g15 l16 => ∃ z17, r = some (iq_i z17) ∧ (Q (some (iq_i z17)) g15 l16)))))))) ∧
    ((0 : Int) ≤ a0 → ((-2147483648 ≤ a0 ∧ a0 ≤ 2147483647) ∧
      ((8 : Int) < a0 → (iq_P N xs 114 0 [some (iq_r 77)] [] g l (fun r g18 l19 => r = none ∧ ((-2147483648 ≤ a0 ∧ a0 ≤ 2147483647 ∧ (11 : Int) - 9 + 1 = 3) ∧ (
          (a0 = 9 → (iq_P N xs 115 0 [some (iq_r 77), some (iq_i (g18 77 26))] [] g18 l19 (fun r g20 l21 => ∃ z22, r = some (iq_i z22) ∧ (Q (some (iq_i z22)) g20 l21)))) ∧
          (a0 = 10 → (iq_P N xs 115 0 [some (iq_r 77), some (iq_i (g18 77 27))] [] g18 l19 (fun r g23 l24 => ∃ z25, r = some (iq_i z25) ∧ (Q (some (iq_i z25)) g23 l24)))) ∧
          (a0 = 11 → (iq_P N xs 144 0 [some (iq_r 77), none, none] [] g18 l19 (fun r g26 l27 => ∃ z28, r = some (iq_i z28) ∧ (iq_P N xs 115 0 [some (iq_r 77), some (iq_i z28)] [] g26 l27 (fun r g29 l30 => ∃ z31, r = some (iq_i z31) ∧ (Q (some (iq_i z31)) g29 l30)))))) ∧ True) ∧
          ((a0 < 9 ∨ 11 < a0) → (iq_P N xs 98 0 [some (iq_r 77), some (iq_i 1)] [] g18 l19 (fun r g32 l33 => ∃ z34, r = some (iq_i z34) ∧ (Q (some (iq_i z34)) g32 l33)))))))) ∧
      (a0 ≤ (8 : Int) → ((0 ≤ a0 ∧ a0 < 2392) ∧ (iq_P N xs 115 0 [some (iq_r 77), some (iq_i (g 78 a0))] [] g l (fun r g35 l36 => ∃ z37, r = some (iq_i z37) ∧ (Q (some (iq_i z37)) g35 l36)))))))) :
    iq_P N xs 145 0 [some (iq_r 77), some (iq_i a0)] [] g l Q := iq_w_ok (cuts := []) 14 0 _ _ _ _ H

-- ScaleForge.isFarName(I)Z at 0
set_option maxRecDepth 20000 in
theorem B146 {N : Nat} {xs : Nat → Int32} {Q : iq_T} (a0 : Int) (g : iq_I) (l : iq_J) (H : (-2147483648 ≤ a0 ∧ a0 ≤ 2147483647) ∧
    (a0 < (-60 : Int) → (Q (some (iq_i 1)) g l)) ∧
    ((-60 : Int) ≤ a0 → ((-2147483648 ≤ a0 ∧ a0 ≤ 2147483647) ∧
      (a0 ≤ (60 : Int) → (Q (some (iq_i 0)) g l)) ∧
      ((60 : Int) < a0 → (Q (some (iq_i 1)) g l))))) :
    iq_P N xs 146 0 [some (iq_i a0)] [] g l Q := iq_w_ok (cuts := []) 9 0 _ _ _ _ H

-- ScaleForge$Scale.chainTone(I)I at 0
set_option maxRecDepth 20000 in
theorem B147_23 {N : Nat} {xs : Nat → Int32} {Q : iq_T} (a0 : Int) (g : iq_I) (l : iq_J) (H : iq_P N xs 5 0 [some (iq_r 23), some (iq_i ((g 24 5) + ((a0 - (g 24 4)) * (g 24 2)))), none] [] g l (fun r g1 l2 => ∃ z3, r = some (iq_i z3) ∧ (Q (some (iq_i z3)) g1 l2))) :
    iq_P N xs 147 0 [some (iq_r 23), some (iq_i a0)] [] g l Q := iq_w_ok (cuts := []) 19 0 _ _ _ _ H

-- ScaleForge.chain(I)I at 0
set_option maxRecDepth 20000 in
theorem B148_0 {N : Nat} {xs : Nat → Int32} {Q : iq_T} (a0 : Int) (g : iq_I) (l : iq_J) (H : iq_P N xs 146 0 [some (iq_i a0)] [] g l (fun r g1 l2 => ∃ z3, r = some (iq_i z3) ∧ ((-2147483648 ≤ z3 ∧ z3 ≤ 2147483647) ∧
      (z3 = (0 : Int) → (iq_P N xs 147 0 [some (iq_r 23), some (iq_i a0)] [] g1 l2 (fun r g4 l5 => ∃ z6, r = some (iq_i z6) ∧ (iq_P N xs 90 0 [some (iq_r 0), some (iq_i z6)] [] g4 l5 (fun r g7 l8 => ∃ z9, r = some (iq_i z9) ∧ (Q (some (iq_i z9)) g7 l8)))))) ∧
      (¬ z3 = (0 : Int) → (iq_P N xs 44 0 [some (iq_r 0), some (iq_i 1)] [] g1 l2 (fun r g10 l11 => ∃ z12, r = some (iq_i z12) ∧ (Q (some (iq_i z12)) g10 l11))))))) :
    iq_P N xs 148 0 [some (iq_r 0), some (iq_i a0)] [] g l Q := iq_w_ok (cuts := []) 10 0 _ _ _ _ H

-- ScaleForgeModel.isFrom(JJJ)Z at 0
set_option maxRecDepth 20000 in
theorem B149 {N : Nat} {xs : Nat → Int32} {Q : iq_T} (a0 : Int64) (a1 : Int64) (a2 : Int64) (g : iq_I) (l : iq_J) (H : (-2147483648 ≤ (iq_lc a0 a1) ∧ (iq_lc a0 a1) ≤ 2147483647) ∧
    ((iq_lc a0 a1) < (0 : Int) → (Q (some (iq_i 0)) g l)) ∧
    ((0 : Int) ≤ (iq_lc a0 a1) → ((-2147483648 ≤ (iq_lc a0 a2) ∧ (iq_lc a0 a2) ≤ 2147483647) ∧
      ((0 : Int) < (iq_lc a0 a2) → (Q (some (iq_i 0)) g l)) ∧
      ((iq_lc a0 a2) ≤ (0 : Int) → (Q (some (iq_i 1)) g l))))) :
    iq_P N xs 149 0 [some (iq_l a0), none, some (iq_l a1), none, some (iq_l a2), none] [] g l Q := iq_w_ok (cuts := []) 11 0 _ _ _ _ H

-- ScaleForgeModel.chain(I)I at 0
set_option maxRecDepth 20000 in
theorem B150_77 {N : Nat} {xs : Nat → Int32} {Q : iq_T} (a0 : Int) (g : iq_I) (l : iq_J) (H : iq_P N xs 149 0 [some (iq_l (iq_i2l a0)), none, some (iq_l (Int64.ofNat 18446744073709551556)), none, some (iq_l (Int64.ofNat 60)), none] [] g l (fun r g1 l2 => ∃ z3, r = some (iq_i z3) ∧ ((-2147483648 ≤ z3 ∧ z3 ≤ 2147483647) ∧
      (z3 = (0 : Int) → (iq_P N xs 98 0 [some (iq_r 77), some (iq_i 1)] [] g1 l2 (fun r g4 l5 => ∃ z6, r = some (iq_i z6) ∧ (Q (some (iq_i z6)) g4 l5)))) ∧
      (¬ z3 = (0 : Int) → (iq_P N xs 112 0 [some (iq_r 77), some (iq_i a0), some (iq_i (g1 78 2))] [] g1 l2 (fun r g7 l8 => ∃ z9, r = some (iq_i z9) ∧ (iq_P N xs 115 0 [some (iq_r 77), some (iq_i z9)] [] g7 l8 (fun r g10 l11 => ∃ z12, r = some (iq_i z12) ∧ (Q (some (iq_i z12)) g10 l11))))))))) :
    iq_P N xs 150 0 [some (iq_r 77), some (iq_i a0)] [] g l Q := iq_w_ok (cuts := []) 17 0 _ _ _ _ H

-- ScaleForge.isDegree(I)Z at 0
set_option maxRecDepth 20000 in
theorem B151_0 {N : Nat} {xs : Nat → Int32} {Q : iq_T} (a0 : Int) (g : iq_I) (l : iq_J) (H : (-2147483648 ≤ a0 ∧ a0 ≤ 2147483647) ∧
    (a0 < (0 : Int) → (Q (some (iq_i 0)) g l)) ∧
    ((0 : Int) ≤ a0 → (iq_P N xs 89 0 [some (iq_r 23)] [] g l (fun r g1 l2 => ∃ z3, r = some (iq_i z3) ∧ ((-2147483648 ≤ a0 ∧ a0 ≤ 2147483647 ∧ -2147483648 ≤ z3 ∧ z3 ≤ 2147483647) ∧
        (z3 ≤ a0 → (Q (some (iq_i 0)) g1 l2)) ∧
        (a0 < z3 → (Q (some (iq_i 1)) g1 l2))))))) :
    iq_P N xs 151 0 [some (iq_r 0), some (iq_i a0)] [] g l Q := iq_w_ok (cuts := []) 10 0 _ _ _ _ H

-- ScaleForge.tone(I)I at 0
set_option maxRecDepth 20000 in
theorem B152_0 {N : Nat} {xs : Nat → Int32} {Q : iq_T} (a0 : Int) (g : iq_I) (l : iq_J) (H : iq_P N xs 151 0 [some (iq_r 0), some (iq_i a0)] [] g l (fun r g1 l2 => ∃ z3, r = some (iq_i z3) ∧ ((-2147483648 ≤ z3 ∧ z3 ≤ 2147483647) ∧
      (z3 = (0 : Int) → (iq_P N xs 44 0 [some (iq_r 0), some (iq_i 1)] [] g1 l2 (fun r g4 l5 => ∃ z6, r = some (iq_i z6) ∧ (Q (some (iq_i z6)) g4 l5)))) ∧
      (¬ z3 = (0 : Int) → (iq_P N xs 137 0 [some (iq_r 0)] [] g1 l2 (fun r g7 l8 => iq_P N xs 152 13 [some (iq_r 0), some (iq_i a0)] (r.toList ++ [iq_r 0]) g7 l8 Q)))))) :
    iq_P N xs 152 0 [some (iq_r 0), some (iq_i a0)] [] g l Q := iq_w_ok (cuts := []) 8 0 _ _ _ _ H

-- ScaleForge.tone(I)I at 13
set_option maxRecDepth 20000 in
theorem B152_q13_31 {N : Nat} {xs : Nat → Int32} {Q : iq_T} (v1 : Int) (g : iq_I) (l : iq_J) (H : iq_P N xs 138 0 [some (iq_r 31), some (iq_i v1)] [] g l (fun r g1 l2 => ∃ z3, r = some (iq_i z3) ∧ (iq_P N xs 90 0 [some (iq_r 0), some (iq_i z3)] [] g1 l2 (fun r g4 l5 => ∃ z6, r = some (iq_i z6) ∧ (Q (some (iq_i z6)) g4 l5))))) :
    iq_P N xs 152 13 [some (iq_r 0), some (iq_i v1)] [iq_r 31, iq_r 0] g l Q := iq_w_ok (cuts := []) 5 13 _ _ _ _ H

-- ScaleForgeModel.isDegree(I)Z at 0
set_option maxRecDepth 20000 in
theorem B153_77 {N : Nat} {xs : Nat → Int32} {Q : iq_T} (a0 : Int) (g : iq_I) (l : iq_J) (H : iq_P N xs 114 0 [some (iq_r 77)] [] g l (fun r g1 l2 => r = none ∧ ((-2147483648 ≤ a0 ∧ a0 ≤ 2147483647) ∧
      (a0 < (0 : Int) → (Q (some (iq_i 0)) g1 l2)) ∧
      ((0 : Int) ≤ a0 → ((-2147483648 ≤ a0 ∧ a0 ≤ 2147483647 ∧ -2147483648 ≤ (g1 77 26) ∧ (g1 77 26) ≤ 2147483647) ∧
        ((g1 77 26) ≤ a0 → (Q (some (iq_i 0)) g1 l2)) ∧
        (a0 < (g1 77 26) → (Q (some (iq_i 1)) g1 l2))))))) :
    iq_P N xs 153 0 [some (iq_r 77), some (iq_i a0)] [] g l Q := iq_w_ok (cuts := []) 11 0 _ _ _ _ H

-- ScaleForgeModel.tone(I)I at 0
set_option maxRecDepth 20000 in
theorem B154_77 {N : Nat} {xs : Nat → Int32} {Q : iq_T} (a0 : Int) (g : iq_I) (l : iq_J) (H : iq_P N xs 153 0 [some (iq_r 77), some (iq_i a0)] [] g l (fun r g1 l2 => ∃ z3, r = some (iq_i z3) ∧ ((-2147483648 ≤ z3 ∧ z3 ≤ 2147483647) ∧
      (z3 = (0 : Int) → (iq_P N xs 98 0 [some (iq_r 77), some (iq_i 1)] [] g1 l2 (fun r g4 l5 => ∃ z6, r = some (iq_i z6) ∧ (Q (some (iq_i z6)) g4 l5)))) ∧
      (¬ z3 = (0 : Int) → ((0 ≤ a0 ∧ a0 < 24) ∧ (iq_P N xs 115 0 [some (iq_r 77), some (iq_i (g1 85 a0))] [] g1 l2 (fun r g7 l8 => ∃ z9, r = some (iq_i z9) ∧ (Q (some (iq_i z9)) g7 l8)))))))) :
    iq_P N xs 154 0 [some (iq_r 77), some (iq_i a0)] [] g l Q := iq_w_ok (cuts := []) 12 0 _ _ _ _ H

-- ScaleForge$Scale.isOfDegree(I)Z at 0
set_option maxRecDepth 20000 in
theorem B155_23 {N : Nat} {xs : Nat → Int32} {Q : iq_T} (a0 : Int) (g : iq_I) (l : iq_J) (H : iq_P N xs 74 0 [some (iq_l (l 23 4)), none, some (iq_i a0)] [] g l (fun r g1 l2 => ∃ z3, r = some (iq_i z3) ∧ ((z3 = 0 ∨ z3 = 1) ∧ Q (some (iq_i z3)) g1 l2))) :
    iq_P N xs 155 0 [some (iq_r 23), some (iq_i a0)] [] g l Q := iq_w_ok (cuts := []) 5 0 _ _ _ _ H

-- ScaleForge$Scale.isOfDegree(I)Z at 0
set_option maxRecDepth 20000 in
theorem B155_44 {N : Nat} {xs : Nat → Int32} {Q : iq_T} (a0 : Int) (g : iq_I) (l : iq_J) (H : iq_P N xs 74 0 [some (iq_l (l 44 4)), none, some (iq_i a0)] [] g l (fun r g1 l2 => ∃ z3, r = some (iq_i z3) ∧ ((z3 = 0 ∨ z3 = 1) ∧ Q (some (iq_i z3)) g1 l2))) :
    iq_P N xs 155 0 [some (iq_r 44), some (iq_i a0)] [] g l Q := iq_w_ok (cuts := []) 5 0 _ _ _ _ H

-- ScaleForge.degreeOf(I)I at 0
set_option maxRecDepth 20000 in
theorem B156_0 {N : Nat} {xs : Nat → Int32} {Q : iq_T} (a0 : Int) (g : iq_I) (l : iq_J) (H : iq_P N xs 6 0 [some (iq_i a0)] [] g l (fun r g1 l2 => ∃ x3, r = some (iq_l x3) ∧ (iq_P N xs 88 0 [some (iq_l ((l 23 4) &&& (x3 - (1 : Int64)))), none] [] g1 l2 (fun r g4 l5 => ∃ z6, r = some (iq_i z6) ∧ (Q (some (iq_i z6)) g4 l5))))) :
    iq_P N xs 156 0 [some (iq_r 0), some (iq_i a0)] [] g l Q := iq_w_ok (cuts := []) 10 0 _ _ _ _ H

-- ScaleForge.degree(I)I at 0
set_option maxRecDepth 20000 in
theorem B157_0 {N : Nat} {xs : Nat → Int32} {Q : iq_T} (a0 : Int) (g : iq_I) (l : iq_J) (H : iq_P N xs 77 0 [some (iq_r 23), some (iq_i a0)] [] g l (fun r g1 l2 => ∃ z3, r = some (iq_i z3) ∧ ((-2147483648 ≤ z3 ∧ z3 ≤ 2147483647) ∧
      (¬ z3 = (0 : Int) → (iq_P N xs 155 0 [some (iq_r 23), some (iq_i a0)] [] g1 l2 (fun r g4 l5 => ∃ z6, r = some (iq_i z6) ∧ ((-2147483648 ≤ z6 ∧ z6 ≤ 2147483647) ∧
          (z6 = (0 : Int) → (iq_P N xs 44 0 [some (iq_r 0), some (iq_i 6)] [] g4 l5 (fun r g7 l8 => ∃ z9, r = some (iq_i z9) ∧ (Q (some (iq_i z9)) g7 l8)))) ∧
          (¬ z6 = (0 : Int) → (iq_P N xs 156 0 [some (iq_r 0), some (iq_i a0)] [] g4 l5 (fun r g10 l11 => ∃ z12, r = some (iq_i z12) ∧ (iq_P N xs 90 0 [some (iq_r 0), some (iq_i z12)] [] g10 l11 (fun r g13 l14 => ∃ z15, r = some (iq_i z15) ∧ (Q (some (iq_i z15)) g13 l14)))))))))) ∧
      (z3 = (0 : Int) → (iq_P N xs 44 0 [some (iq_r 0), some (iq_i 1)] [] g1 l2 (fun r g16 l17 => ∃ z18, r = some (iq_i z18) ∧ (Q (some (iq_i z18)) g16 l17))))))) :
    iq_P N xs 157 0 [some (iq_r 0), some (iq_i a0)] [] g l Q := iq_w_ok (cuts := []) 17 0 _ _ _ _ H

-- ScaleForgeModel.isTone(I)Z at 0
set_option maxRecDepth 20000 in
theorem B158_77 {N : Nat} {xs : Nat → Int32} {Q : iq_T} (a0 : Int) (g : iq_I) (l : iq_J) (H : (-2147483648 ≤ a0 ∧ a0 ≤ 2147483647) ∧
    (a0 < (0 : Int) → (Q (some (iq_i 0)) g l)) ∧
    ((0 : Int) ≤ a0 → ((-2147483648 ≤ a0 ∧ a0 ≤ 2147483647 ∧ -2147483648 ≤ (g 78 1) ∧ (g 78 1) ≤ 2147483647) ∧
      ((g 78 1) ≤ a0 → (Q (some (iq_i 0)) g l)) ∧
      (a0 < (g 78 1) → (Q (some (iq_i 1)) g l))))) :
    iq_P N xs 158 0 [some (iq_r 77), some (iq_i a0)] [] g l Q := iq_w_ok (cuts := []) 11 0 _ _ _ _ H

-- ScaleForgeModel.orNone(I)I at 0
set_option maxRecDepth 20000 in
theorem B159_77 {N : Nat} {xs : Nat → Int32} {Q : iq_T} (a0 : Int) (g : iq_I) (l : iq_J) (H : (-2147483648 ≤ a0 ∧ a0 ≤ 2147483647) ∧
    (¬ a0 = (-1 : Int) → (iq_P N xs 115 0 [some (iq_r 77), some (iq_i a0)] [] g l (fun r g1 l2 => ∃ z3, r = some (iq_i z3) ∧ (Q (some (iq_i z3)) g1 l2)))) ∧
    (a0 = (-1 : Int) → (iq_P N xs 98 0 [some (iq_r 77), some (iq_i 6)] [] g l (fun r g4 l5 => ∃ z6, r = some (iq_i z6) ∧ (Q (some (iq_i z6)) g4 l5))))) :
    iq_P N xs 159 0 [some (iq_r 77), some (iq_i a0)] [] g l Q := iq_w_ok (cuts := []) 7 0 _ _ _ _ H

-- ScaleForgeModel.degree(I)I at 0
set_option maxRecDepth 20000 in
theorem B160_77 {N : Nat} {xs : Nat → Int32} {Q : iq_T} (a0 : Int) (g : iq_I) (l : iq_J) (H : iq_P N xs 158 0 [some (iq_r 77), some (iq_i a0)] [] g l (fun r g1 l2 => ∃ z3, r = some (iq_i z3) ∧ ((-2147483648 ≤ z3 ∧ z3 ≤ 2147483647) ∧
      (¬ z3 = (0 : Int) → (iq_P N xs 114 0 [some (iq_r 77)] [] g1 l2 (fun r g4 l5 => r = none ∧ ((0 ≤ a0 ∧ a0 < 60) ∧ (iq_P N xs 159 0 [some (iq_r 77), some (iq_i (g4 87 a0))] [] g4 l5 (fun r g6 l7 => ∃ z8, r = some (iq_i z8) ∧ (Q (some (iq_i z8)) g6 l7))))))) ∧
      (z3 = (0 : Int) → (iq_P N xs 98 0 [some (iq_r 77), some (iq_i 1)] [] g1 l2 (fun r g9 l10 => ∃ z11, r = some (iq_i z11) ∧ (Q (some (iq_i z11)) g9 l10))))))) :
    iq_P N xs 160 0 [some (iq_r 77), some (iq_i a0)] [] g l Q := iq_w_ok (cuts := []) 13 0 _ _ _ _ H

-- ScaleForge.step(I)I at 0
set_option maxRecDepth 20000 in
theorem B161_0 {N : Nat} {xs : Nat → Int32} {Q : iq_T} (a0 : Int) (g : iq_I) (l : iq_J) (H : iq_P N xs 151 0 [some (iq_r 0), some (iq_i a0)] [] g l (fun r g1 l2 => ∃ z3, r = some (iq_i z3) ∧ ((-2147483648 ≤ z3 ∧ z3 ≤ 2147483647) ∧
      (z3 = (0 : Int) → (iq_P N xs 44 0 [some (iq_r 0), some (iq_i 1)] [] g1 l2 (fun r g4 l5 => ∃ z6, r = some (iq_i z6) ∧ (Q (some (iq_i z6)) g4 l5)))) ∧
      (¬ z3 = (0 : Int) → (iq_P N xs 137 0 [some (iq_r 0)] [] g1 l2 (fun r g7 l8 => iq_P N xs 161 13 [some (iq_r 0), some (iq_i a0)] (r.toList ++ [iq_r 0]) g7 l8 Q)))))) :
    iq_P N xs 161 0 [some (iq_r 0), some (iq_i a0)] [] g l Q := iq_w_ok (cuts := []) 8 0 _ _ _ _ H

-- ScaleForge.step(I)I at 13
set_option maxRecDepth 20000 in
theorem B161_q13_31 {N : Nat} {xs : Nat → Int32} {Q : iq_T} (v1 : Int) (g : iq_I) (l : iq_J) (H : iq_P N xs 140 0 [some (iq_r 31), some (iq_i v1), some (iq_i 1)] [] g l (fun r g1 l2 => ∃ z3, r = some (iq_i z3) ∧ (iq_P N xs 90 0 [some (iq_r 0), some (iq_i z3)] [] g1 l2 (fun r g4 l5 => ∃ z6, r = some (iq_i z6) ∧ (Q (some (iq_i z6)) g4 l5))))) :
    iq_P N xs 161 13 [some (iq_r 0), some (iq_i v1)] [iq_r 31, iq_r 0] g l Q := iq_w_ok (cuts := []) 6 13 _ _ _ _ H

-- ScaleForgeModel.step(I)I at 0
set_option maxRecDepth 20000 in
theorem B162_77 {N : Nat} {xs : Nat → Int32} {Q : iq_T} (a0 : Int) (g : iq_I) (l : iq_J) (H : iq_P N xs 153 0 [some (iq_r 77), some (iq_i a0)] [] g l (fun r g1 l2 => ∃ z3, r = some (iq_i z3) ∧ ((-2147483648 ≤ z3 ∧ z3 ≤ 2147483647) ∧
      (z3 = (0 : Int) → (iq_P N xs 98 0 [some (iq_r 77), some (iq_i 1)] [] g1 l2 (fun r g4 l5 => ∃ z6, r = some (iq_i z6) ∧ (Q (some (iq_i z6)) g4 l5)))) ∧
      (¬ z3 = (0 : Int) → ((0 ≤ a0 ∧ a0 < 24) ∧ (iq_P N xs 115 0 [some (iq_r 77), some (iq_i (g1 86 a0))] [] g1 l2 (fun r g7 l8 => ∃ z9, r = some (iq_i z9) ∧ (Q (some (iq_i z9)) g7 l8)))))))) :
    iq_P N xs 162 0 [some (iq_r 77), some (iq_i a0)] [] g l Q := iq_w_ok (cuts := []) 12 0 _ _ _ _ H

-- ScaleForge.span(II)I at 0
set_option maxRecDepth 20000 in
theorem B163_0 {N : Nat} {xs : Nat → Int32} {Q : iq_T} (a0 : Int) (a1 : Int) (g : iq_I) (l : iq_J) (H : iq_P N xs 151 0 [some (iq_r 0), some (iq_i a0)] [] g l (fun r g1 l2 => ∃ z3, r = some (iq_i z3) ∧ ((-2147483648 ≤ z3 ∧ z3 ≤ 2147483647) ∧
      (z3 = (0 : Int) → (iq_P N xs 44 0 [some (iq_r 0), some (iq_i 1)] [] g1 l2 (fun r g4 l5 => ∃ z6, r = some (iq_i z6) ∧ (Q (some (iq_i z6)) g4 l5)))) ∧
      (¬ z3 = (0 : Int) → ((-2147483648 ≤ a1 ∧ a1 ≤ 2147483647) ∧
        (a1 < (0 : Int) → (iq_P N xs 44 0 [some (iq_r 0), some (iq_i 1)] [] g1 l2 (fun r g7 l8 => ∃ z9, r = some (iq_i z9) ∧ (Q (some (iq_i z9)) g7 l8)))) ∧
        ((0 : Int) ≤ a1 → ((-2147483648 ≤ a1 ∧ a1 ≤ 2147483647) ∧
          (a1 ≤ (24 : Int) → (iq_P N xs 137 0 [some (iq_r 0)] [] g1 l2 (fun r g10 l11 => iq_P N xs 163 29 [some (iq_r 0), some (iq_i a0), some (iq_i a1)] (r.toList ++ [iq_r 0]) g10 l11 Q))) ∧
          ((24 : Int) < a1 → (iq_P N xs 44 0 [some (iq_r 0), some (iq_i 1)] [] g1 l2 (fun r g12 l13 => ∃ z14, r = some (iq_i z14) ∧ (Q (some (iq_i z14)) g12 l13))))))))))) :
    iq_P N xs 163 0 [some (iq_r 0), some (iq_i a0), some (iq_i a1)] [] g l Q := iq_w_ok (cuts := []) 13 0 _ _ _ _ H

-- ScaleForge.span(II)I at 29
set_option maxRecDepth 20000 in
theorem B163_q29_31 {N : Nat} {xs : Nat → Int32} {Q : iq_T} (v1 : Int) (v2 : Int) (g : iq_I) (l : iq_J) (H : iq_P N xs 140 0 [some (iq_r 31), some (iq_i v1), some (iq_i v2)] [] g l (fun r g1 l2 => ∃ z3, r = some (iq_i z3) ∧ (iq_P N xs 90 0 [some (iq_r 0), some (iq_i z3)] [] g1 l2 (fun r g4 l5 => ∃ z6, r = some (iq_i z6) ∧ (Q (some (iq_i z6)) g4 l5))))) :
    iq_P N xs 163 29 [some (iq_r 0), some (iq_i v1), some (iq_i v2)] [iq_r 31, iq_r 0] g l Q := iq_w_ok (cuts := []) 5 29 _ _ _ _ H

-- ScaleForgeModel.spanOf(II)I at 0
set_option maxRecDepth 20000 in
theorem B164_77 {N : Nat} {xs : Nat → Int32} {Q : iq_T} (a0 : Int) (a1 : Int) (g : iq_I) (l : iq_J) (H : iq_P N xs 164 5 [some (iq_r 77), some (iq_i a0), some (iq_i a1), some (iq_i 0), some (iq_i 0)] [] g l Q) :
    iq_P N xs 164 0 [some (iq_r 77), some (iq_i a0), some (iq_i a1), none, none] [] g l Q := iq_w_ok (cuts := [5]) 4 0 _ _ _ _ H

-- ScaleForgeModel.spanOf(II)I at 5
set_option maxRecDepth 20000 in
theorem B164_p5_77 {N : Nat} {xs : Nat → Int32} {Q : iq_T} (v1 : Int) (v2 : Int) (v3 : Int) (v4 : Int) (g : iq_I) (l : iq_J) (H : (-2147483648 ≤ v4 ∧ v4 ≤ 2147483647 ∧ -2147483648 ≤ v2 ∧ v2 ≤ 2147483647) ∧
    (v2 ≤ v4 → (Q (some (iq_i v3)) g l)) ∧
    (v4 < v2 → ((-2147483648 < (v1 + v4) ∧ (v1 + v4) ≤ 2147483647 ∧ -2147483648 ≤ (g 77 26) ∧ (g 77 26) ≤ 2147483647 ∧ ¬ (g 77 26) = 0) ∧ ((0 ≤ (Int.tmod (v1 + v4) (g 77 26)) ∧ (Int.tmod (v1 + v4) (g 77 26)) < 24) ∧ (iq_P N xs 164 5 [some (iq_r 77), some (iq_i v1), some (iq_i v2), some (iq_i (v3 + (g 86 (Int.tmod (v1 + v4) (g 77 26))))), some (iq_i (v4 + 1))] [] g l Q))))) :
    iq_P N xs 164 5 [some (iq_r 77), some (iq_i v1), some (iq_i v2), some (iq_i v3), some (iq_i v4)] [] g l Q := iq_w_ok (cuts := [5]) 17 5 _ _ _ _ H

-- ScaleForgeModel.span(II)I at 0
set_option maxRecDepth 20000 in
theorem B165_77 {N : Nat} {xs : Nat → Int32} {Q : iq_T} (a0 : Int) (a1 : Int) (g : iq_I) (l : iq_J) (H : iq_P N xs 153 0 [some (iq_r 77), some (iq_i a0)] [] g l (fun r g1 l2 => ∃ z3, r = some (iq_i z3) ∧ ((-2147483648 ≤ z3 ∧ z3 ≤ 2147483647) ∧
      (z3 = (0 : Int) → (iq_P N xs 98 0 [some (iq_r 77), some (iq_i 1)] [] g1 l2 (fun r g4 l5 => ∃ z6, r = some (iq_i z6) ∧ (Q (some (iq_i z6)) g4 l5)))) ∧
      (¬ z3 = (0 : Int) → (iq_P N xs 149 0 [some (iq_l (iq_i2l a1)), none, some (iq_l (0 : Int64)), none, some (iq_l (Int64.ofNat 24)), none] [] g1 l2 (fun r g7 l8 => ∃ z9, r = some (iq_i z9) ∧ ((-2147483648 ≤ z9 ∧ z9 ≤ 2147483647) ∧
          (z9 = (0 : Int) → (iq_P N xs 98 0 [some (iq_r 77), some (iq_i 1)] [] g7 l8 (fun r g10 l11 => ∃ z12, r = some (iq_i z12) ∧ (Q (some (iq_i z12)) g10 l11)))) ∧
          (¬ z9 = (0 : Int) → (iq_P N xs 164 0 [some (iq_r 77), some (iq_i a0), some (iq_i a1), none, none] [] g7 l8 (fun r g13 l14 => ∃ z15, r = some (iq_i z15) ∧ (iq_P N xs 115 0 [some (iq_r 77), some (iq_i z15)] [] g13 l14 (fun r g16 l17 => ∃ z18, r = some (iq_i z18) ∧ (Q (some (iq_i z18)) g16 l17))))))))))))) :
    iq_P N xs 165 0 [some (iq_r 77), some (iq_i a0), some (iq_i a1)] [] g l Q := iq_w_ok (cuts := []) 18 0 _ _ _ _ H

-- ScaleForge$Bits.pick(JI)I at 0
set_option maxRecDepth 20000 in
theorem B166 {N : Nat} {xs : Nat → Int32} {Q : iq_T} (a0 : Int64) (a1 : Int) (g : iq_I) (l : iq_J) (H : (-2147483648 ≤ a1 ∧ a1 ≤ 2147483647) ∧
    ((0 : Int) ≤ a1 → (iq_P N xs 166 11 [some (iq_l a0), none, some (iq_i a1), some (iq_i a1), some (iq_i 0)] [] g l Q)) ∧
    (a1 < (0 : Int) → (Q (some (iq_i (-1))) g l))) :
    iq_P N xs 166 0 [some (iq_l a0), none, some (iq_i a1), none, none] [] g l Q := iq_w_ok (cuts := [11]) 6 0 _ _ _ _ H

-- ScaleForge$Bits.pick(JI)I at 11
set_option maxRecDepth 20000 in
theorem B166_p11 {N : Nat} {xs : Nat → Int32} {Q : iq_T} (v0 : Int64) (v2 : Int) (v3 : Int) (v4 : Int) (g : iq_I) (l : iq_J) (H : (-2147483648 ≤ v4 ∧ v4 ≤ 2147483647) ∧
    ((64 : Int) ≤ v4 → (Q (some (iq_i (-1))) g l)) ∧
    (v4 < (64 : Int) → (iq_P N xs 74 0 [some (iq_l v0), none, some (iq_i v4)] [] g l (fun r g1 l2 => ∃ z3, r = some (iq_i z3) ∧ ((-2147483648 ≤ z3 ∧ z3 ≤ 2147483647) ∧
        (z3 = (0 : Int) → (iq_P N xs 166 11 [some (iq_l v0), none, some (iq_i v2), some (iq_i v3), some (iq_i (v4 + 1))] [] g1 l2 Q)) ∧
        (¬ z3 = (0 : Int) → ((-2147483648 ≤ v3 ∧ v3 ≤ 2147483647) ∧
          (¬ v3 = (0 : Int) → (iq_P N xs 166 11 [some (iq_l v0), none, some (iq_i v2), some (iq_i (v3 + (-1))), some (iq_i (v4 + 1))] [] g1 l2 Q)) ∧
          (v3 = (0 : Int) → (Q (some (iq_i v4)) g1 l2))))))))) :
    iq_P N xs 166 11 [some (iq_l v0), none, some (iq_i v2), some (iq_i v3), some (iq_i v4)] [] g l Q := iq_w_ok (cuts := [11]) 12 11 _ _ _ _ H

-- ScaleForge.giveFound(I)I at 0
set_option maxRecDepth 20000 in
theorem B167_0 {N : Nat} {xs : Nat → Int32} {Q : iq_T} (a0 : Int) (g : iq_I) (l : iq_J) (H : (-2147483648 ≤ a0 ∧ a0 ≤ 2147483647) ∧
    (¬ a0 = (-1 : Int) → (iq_P N xs 90 0 [some (iq_r 0), some (iq_i a0)] [] g l (fun r g1 l2 => ∃ z3, r = some (iq_i z3) ∧ (Q (some (iq_i z3)) g1 l2)))) ∧
    (a0 = (-1 : Int) → (iq_P N xs 44 0 [some (iq_r 0), some (iq_i 6)] [] g l (fun r g4 l5 => ∃ z6, r = some (iq_i z6) ∧ (Q (some (iq_i z6)) g4 l5))))) :
    iq_P N xs 167 0 [some (iq_r 0), some (iq_i a0)] [] g l Q := iq_w_ok (cuts := []) 8 0 _ _ _ _ H

-- ScaleForge.sizeAt(I)I at 0
set_option maxRecDepth 20000 in
theorem B168_0 {N : Nat} {xs : Nat → Int32} {Q : iq_T} (a0 : Int) (g : iq_I) (l : iq_J) (H : iq_P N xs 137 0 [some (iq_r 0)] [] g l (fun r g1 l2 => iq_P N xs 168 5 [some (iq_r 0), some (iq_i a0)] (r.toList ++ [iq_r 0]) g1 l2 Q)) :
    iq_P N xs 168 0 [some (iq_r 0), some (iq_i a0)] [] g l Q := iq_w_ok (cuts := []) 3 0 _ _ _ _ H

-- ScaleForge.sizeAt(I)I at 5
set_option maxRecDepth 20000 in
theorem B168_q5_31 {N : Nat} {xs : Nat → Int32} {Q : iq_T} (v1 : Int) (g : iq_I) (l : iq_J) (H : iq_P N xs 141 0 [some (iq_r 31), none, none, none] [] g l (fun r g1 l2 => ∃ x3, r = some (iq_l x3) ∧ (iq_P N xs 166 0 [some (iq_l x3), none, some (iq_i v1), none, none] [] g1 l2 (fun r g4 l5 => ∃ z6, r = some (iq_i z6) ∧ (iq_P N xs 167 0 [some (iq_r 0), some (iq_i z6)] [] g4 l5 (fun r g7 l8 => ∃ z9, r = some (iq_i z9) ∧ (Q (some (iq_i z9)) g7 l8))))))) :
    iq_P N xs 168 5 [some (iq_r 0), some (iq_i v1)] [iq_r 31, iq_r 0] g l Q := iq_w_ok (cuts := []) 5 5 _ _ _ _ H

-- ScaleForgeModel.isSize(I)Z at 0
set_option maxRecDepth 20000 in
theorem B169_77 {N : Nat} {xs : Nat → Int32} {Q : iq_T} (a0 : Int) (g : iq_I) (l : iq_J) (H : iq_P N xs 114 0 [some (iq_r 77)] [] g l (fun r g1 l2 => r = none ∧ ((-2147483648 ≤ a0 ∧ a0 ≤ 2147483647) ∧
      (a0 < (0 : Int) → (Q (some (iq_i 0)) g1 l2)) ∧
      ((0 : Int) ≤ a0 → ((-2147483648 ≤ a0 ∧ a0 ≤ 2147483647 ∧ -2147483648 ≤ (g1 77 27) ∧ (g1 77 27) ≤ 2147483647) ∧
        ((g1 77 27) ≤ a0 → (Q (some (iq_i 0)) g1 l2)) ∧
        (a0 < (g1 77 27) → (Q (some (iq_i 1)) g1 l2))))))) :
    iq_P N xs 169 0 [some (iq_r 77), some (iq_i a0)] [] g l Q := iq_w_ok (cuts := []) 11 0 _ _ _ _ H

-- ScaleForgeModel.sizeAt(I)I at 0
set_option maxRecDepth 20000 in
theorem B170_77 {N : Nat} {xs : Nat → Int32} {Q : iq_T} (a0 : Int) (g : iq_I) (l : iq_J) (H : iq_P N xs 169 0 [some (iq_r 77), some (iq_i a0)] [] g l (fun r g1 l2 => ∃ z3, r = some (iq_i z3) ∧ ((-2147483648 ≤ z3 ∧ z3 ≤ 2147483647) ∧
      (z3 = (0 : Int) → (iq_P N xs 98 0 [some (iq_r 77), some (iq_i 6)] [] g1 l2 (fun r g4 l5 => ∃ z6, r = some (iq_i z6) ∧ (Q (some (iq_i z6)) g4 l5)))) ∧
      (¬ z3 = (0 : Int) → ((0 ≤ a0 ∧ a0 < 24) ∧ (iq_P N xs 115 0 [some (iq_r 77), some (iq_i (g1 88 a0))] [] g1 l2 (fun r g7 l8 => ∃ z9, r = some (iq_i z9) ∧ (Q (some (iq_i z9)) g7 l8)))))))) :
    iq_P N xs 170 0 [some (iq_r 77), some (iq_i a0)] [] g l Q := iq_w_ok (cuts := []) 12 0 _ _ _ _ H

-- ScaleForge$Ring.stepsOf(I)I at 0
set_option maxRecDepth 20000 in
theorem B171_31 {N : Nat} {xs : Nat → Int32} {Q : iq_T} (a0 : Int) (g : iq_I) (l : iq_J) (H : iq_P N xs 171 4 [some (iq_r 31), some (iq_i a0), some (iq_i 0), some (iq_i 0)] [] g l Q) :
    iq_P N xs 171 0 [some (iq_r 31), some (iq_i a0), none, none] [] g l Q := iq_w_ok (cuts := [4]) 4 0 _ _ _ _ H

-- ScaleForge$Ring.stepsOf(I)I at 4
set_option maxRecDepth 20000 in
theorem B171_p4_31 {N : Nat} {xs : Nat → Int32} {Q : iq_T} (v1 : Int) (v2 : Int) (v3 : Int) (g : iq_I) (l : iq_J) (H : (-2147483648 ≤ v3 ∧ v3 ≤ 2147483647 ∧ -2147483648 ≤ (g 31 3) ∧ (g 31 3) ≤ 2147483647) ∧
    ((g 31 3) ≤ v3 → (Q (some (iq_i v2)) g l)) ∧
    (v3 < (g 31 3) → (iq_P N xs 140 0 [some (iq_r 31), some (iq_i v3), some (iq_i 1)] [] g l (fun r g1 l2 => ∃ z3, r = some (iq_i z3) ∧ ((-2147483648 ≤ z3 ∧ z3 ≤ 2147483647 ∧ -2147483648 ≤ v1 ∧ v1 ≤ 2147483647) ∧
        (¬ z3 = v1 → (iq_P N xs 171 4 [some (iq_r 31), some (iq_i v1), some (iq_i (v2 + 0)), some (iq_i (v3 + 1))] [] g1 l2 Q)) ∧
        (z3 = v1 → (iq_P N xs 171 4 [some (iq_r 31), some (iq_i v1), some (iq_i (v2 + 1)), some (iq_i (v3 + 1))] [] g1 l2 Q))))))) :
    iq_P N xs 171 4 [some (iq_r 31), some (iq_i v1), some (iq_i v2), some (iq_i v3)] [] g l Q := iq_w_ok (cuts := [4]) 17 4 _ _ _ _ H

-- ScaleForge.sizeMany(I)I at 0
set_option maxRecDepth 20000 in
theorem B172_0 {N : Nat} {xs : Nat → Int32} {Q : iq_T} (a0 : Int) (g : iq_I) (l : iq_J) (H : iq_P N xs 137 0 [some (iq_r 0)] [] g l (fun r g1 l2 => iq_P N xs 172 4 [some (iq_r 0), some (iq_i a0), none] (r.toList ++ []) g1 l2 Q)) :
    iq_P N xs 172 0 [some (iq_r 0), some (iq_i a0), none] [] g l Q := iq_w_ok (cuts := []) 2 0 _ _ _ _ H

-- ScaleForge.sizeMany(I)I at 4
set_option maxRecDepth 20000 in
theorem B172_q4_31 {N : Nat} {xs : Nat → Int32} {Q : iq_T} (v1 : Int) (g : iq_I) (l : iq_J) (H : iq_P N xs 141 0 [some (iq_r 31), none, none, none] [] g l (fun r g1 l2 => ∃ x3, r = some (iq_l x3) ∧ (iq_P N xs 166 0 [some (iq_l x3), none, some (iq_i v1), none, none] [] g1 l2 (fun r g4 l5 => ∃ z6, r = some (iq_i z6) ∧ ((-2147483648 ≤ z6 ∧ z6 ≤ 2147483647) ∧
        (¬ z6 = (-1 : Int) → (iq_P N xs 171 0 [some (iq_r 31), some (iq_i z6), none, none] [] g4 l5 (fun r g7 l8 => ∃ z9, r = some (iq_i z9) ∧ (iq_P N xs 90 0 [some (iq_r 0), some (iq_i z9)] [] g7 l8 (fun r g10 l11 => ∃ z12, r = some (iq_i z12) ∧ (Q (some (iq_i z12)) g10 l11)))))) ∧
        (z6 = (-1 : Int) → (iq_P N xs 44 0 [some (iq_r 0), some (iq_i 6)] [] g4 l5 (fun r g13 l14 => ∃ z15, r = some (iq_i z15) ∧ (Q (some (iq_i z15)) g13 l14))))))))) :
    iq_P N xs 172 4 [some (iq_r 0), some (iq_i v1), none] [iq_r 31] g l Q := iq_w_ok (cuts := []) 14 4 _ _ _ _ H

-- ScaleForgeModel.sizeCount(I)I at 0
set_option maxRecDepth 20000 in
theorem B173_77 {N : Nat} {xs : Nat → Int32} {Q : iq_T} (a0 : Int) (g : iq_I) (l : iq_J) (H : iq_P N xs 173 4 [some (iq_r 77), some (iq_i a0), some (iq_i 0), some (iq_i 0)] [] g l Q) :
    iq_P N xs 173 0 [some (iq_r 77), some (iq_i a0), none, none] [] g l Q := iq_w_ok (cuts := [4]) 4 0 _ _ _ _ H

-- ScaleForgeModel.sizeCount(I)I at 4
set_option maxRecDepth 20000 in
theorem B173_p4_77 {N : Nat} {xs : Nat → Int32} {Q : iq_T} (v1 : Int) (v2 : Int) (v3 : Int) (g : iq_I) (l : iq_J) (H : (-2147483648 ≤ v3 ∧ v3 ≤ 2147483647 ∧ -2147483648 ≤ (g 77 26) ∧ (g 77 26) ≤ 2147483647) ∧
    ((g 77 26) ≤ v3 → (Q (some (iq_i v2)) g l)) ∧
    (v3 < (g 77 26) → ((0 ≤ v3 ∧ v3 < 24) ∧ ((0 ≤ v1 ∧ v1 < 24) ∧ ((-2147483648 ≤ (g 86 v3) ∧ (g 86 v3) ≤ 2147483647 ∧ -2147483648 ≤ (g 88 v1) ∧ (g 88 v1) ≤ 2147483647) ∧
      (¬ (g 86 v3) = (g 88 v1) → (iq_P N xs 173 4 [some (iq_r 77), some (iq_i v1), some (iq_i (v2 + 0)), some (iq_i (v3 + 1))] [] g l Q)) ∧
      ((g 86 v3) = (g 88 v1) → (iq_P N xs 173 4 [some (iq_r 77), some (iq_i v1), some (iq_i (v2 + 1)), some (iq_i (v3 + 1))] [] g l Q))))))) :
    iq_P N xs 173 4 [some (iq_r 77), some (iq_i v1), some (iq_i v2), some (iq_i v3)] [] g l Q := iq_w_ok (cuts := [4]) 20 4 _ _ _ _ H

-- ScaleForgeModel.sizeMany(I)I at 0
set_option maxRecDepth 20000 in
theorem B174_77 {N : Nat} {xs : Nat → Int32} {Q : iq_T} (a0 : Int) (g : iq_I) (l : iq_J) (H : iq_P N xs 169 0 [some (iq_r 77), some (iq_i a0)] [] g l (fun r g1 l2 => ∃ z3, r = some (iq_i z3) ∧ ((-2147483648 ≤ z3 ∧ z3 ≤ 2147483647) ∧
      (z3 = (0 : Int) → (iq_P N xs 98 0 [some (iq_r 77), some (iq_i 6)] [] g1 l2 (fun r g4 l5 => ∃ z6, r = some (iq_i z6) ∧ (Q (some (iq_i z6)) g4 l5)))) ∧
      (¬ z3 = (0 : Int) → (iq_P N xs 173 0 [some (iq_r 77), some (iq_i a0), none, none] [] g1 l2 (fun r g7 l8 => ∃ z9, r = some (iq_i z9) ∧ (iq_P N xs 115 0 [some (iq_r 77), some (iq_i z9)] [] g7 l8 (fun r g10 l11 => ∃ z12, r = some (iq_i z12) ∧ (Q (some (iq_i z12)) g10 l11))))))))) :
    iq_P N xs 174 0 [some (iq_r 77), some (iq_i a0)] [] g l Q := iq_w_ok (cuts := []) 11 0 _ _ _ _ H

-- ScaleForge.isAllowed(III)Z at 0
set_option maxRecDepth 20000 in
theorem B175 {N : Nat} {xs : Nat → Int32} {Q : iq_T} (a0 : Int) (a1 : Int) (a2 : Int) (g : iq_I) (l : iq_J) (H : (-2147483648 ≤ a0 ∧ a0 ≤ 2147483647) ∧
    (a0 < (0 : Int) → (Q (some (iq_i 0)) g l)) ∧
    ((0 : Int) ≤ a0 → ((-2147483648 ≤ a0 ∧ a0 ≤ 2147483647) ∧
      ((9 : Int) ≤ a0 → (Q (some (iq_i 0)) g l)) ∧
      (a0 < (9 : Int) → (iq_P N xs 79 0 [some (iq_i a0)] [] g l (fun r g1 l2 => ∃ z3, r = some (iq_i z3) ∧ ((-2147483648 ≤ a1 ∧ a1 ≤ 2147483647 ∧ -2147483648 ≤ z3 ∧ z3 ≤ 2147483647) ∧
          (a1 < z3 → (Q (some (iq_i 0)) g1 l2)) ∧
          (z3 ≤ a1 → (iq_P N xs 81 0 [some (iq_i a0), some (iq_i a2)] [] g1 l2 (fun r g4 l5 => ∃ z6, r = some (iq_i z6) ∧ ((-2147483648 ≤ a1 ∧ a1 ≤ 2147483647 ∧ -2147483648 ≤ z6 ∧ z6 ≤ 2147483647) ∧
              (z6 < a1 → (Q (some (iq_i 0)) g4 l5)) ∧
              (a1 ≤ z6 → (Q (some (iq_i 1)) g4 l5))))))))))))) :
    iq_P N xs 175 0 [some (iq_i a0), some (iq_i a1), some (iq_i a2)] [] g l Q := iq_w_ok (cuts := []) 17 0 _ _ _ _ H

-- ScaleForge.rule(II)I at 0
set_option maxRecDepth 20000 in
theorem B176_0 {N : Nat} {xs : Nat → Int32} {Q : iq_T} (a0 : Int) (a1 : Int) (g : iq_I) (l : iq_J) (H : iq_P N xs 80 0 [some (iq_r 23)] [] g l (fun r g1 l2 => ∃ z3, r = some (iq_i z3) ∧ (iq_P N xs 175 0 [some (iq_i a0), some (iq_i a1), some (iq_i z3)] [] g1 l2 (fun r g4 l5 => ∃ z6, r = some (iq_i z6) ∧ ((-2147483648 ≤ z6 ∧ z6 ≤ 2147483647) ∧
        (¬ z6 = (0 : Int) → (iq_P N xs 135 0 [some (iq_r 23), some (iq_i a0)] [] g4 l5 (fun r g7 l8 => ∃ z9, r = some (iq_i z9) ∧ ((-2147483648 ≤ z9 ∧ z9 ≤ 2147483647 ∧ -2147483648 ≤ a1 ∧ a1 ≤ 2147483647) ∧
            (¬ z9 = a1 → (iq_P N xs 83 0 [some (iq_r 23), some (iq_i a0), some (iq_i a1)] [] g7 l8 (fun r g10 l11 => r = none ∧ (iq_P N xs 9 0 [some (iq_r 23), none] [] g10 l11 (fun r g12 l13 => r = none ∧ (iq_P N xs 89 0 [some (iq_r 23)] [] g12 l13 (fun r g14 l15 => ∃ z16, r = some (iq_i z16) ∧ (iq_P N xs 90 0 [some (iq_r 0), some (iq_i z16)] [] g14 l15 (fun r g17 l18 => ∃ z19, r = some (iq_i z19) ∧ (Q (some (iq_i z19)) g17 l18)))))))))) ∧
            (z9 = a1 → (iq_P N xs 44 0 [some (iq_r 0), some (iq_i 7)] [] g7 l8 (fun r g20 l21 => ∃ z22, r = some (iq_i z22) ∧ (Q (some (iq_i z22)) g20 l21)))))))) ∧
        (z6 = (0 : Int) → (iq_P N xs 44 0 [some (iq_r 0), some (iq_i 1)] [] g4 l5 (fun r g23 l24 => ∃ z25, r = some (iq_i z25) ∧ (Q (some (iq_i z25)) g23 l24))))))))) :
    iq_P N xs 176 0 [some (iq_r 0), some (iq_i a0), some (iq_i a1)] [] g l Q := iq_w_ok (cuts := []) 27 0 _ _ _ _ H

-- ScaleForgeModel.rule(II)I at 0
set_option maxRecDepth 20000 in
theorem B177_77 {N : Nat} {xs : Nat → Int32} {Q : iq_T} (a0 : Int) (a1 : Int) (g : iq_I) (l : iq_J) (H : (-2147483648 ≤ a0 ∧ a0 ≤ 2147483647) ∧
    (a0 < (0 : Int) → (iq_P N xs 98 0 [some (iq_r 77), some (iq_i 1)] [] g l (fun r g1 l2 => ∃ z3, r = some (iq_i z3) ∧ (Q (some (iq_i z3)) g1 l2)))) ∧
    ((0 : Int) ≤ a0 → ((-2147483648 ≤ a0 ∧ a0 ≤ 2147483647) ∧
      ((8 : Int) < a0 → (iq_P N xs 98 0 [some (iq_r 77), some (iq_i 1)] [] g l (fun r g4 l5 => ∃ z6, r = some (iq_i z6) ∧ (Q (some (iq_i z6)) g4 l5)))) ∧
      (a0 ≤ (8 : Int) → (iq_P N xs 106 0 [some (iq_i a0)] [] g l (fun r g7 l8 => ∃ z9, r = some (iq_i z9) ∧ (iq_P N xs 107 0 [some (iq_i a0), some (iq_i (g7 78 1))] [] g7 l8 (fun r g10 l11 => ∃ z12, r = some (iq_i z12) ∧ (iq_P N xs 149 0 [some (iq_l (iq_i2l a1)), none, some (iq_l (iq_i2l z9)), none, some (iq_l (iq_i2l z12)), none] [] g10 l11 (fun r g13 l14 => ∃ z15, r = some (iq_i z15) ∧ ((-2147483648 ≤ z15 ∧ z15 ≤ 2147483647) ∧
              (¬ z15 = (0 : Int) → ((0 ≤ a0 ∧ a0 < 2392) ∧ ((-2147483648 ≤ (g13 78 a0) ∧ (g13 78 a0) ≤ 2147483647 ∧ -2147483648 ≤ a1 ∧ a1 ≤ 2147483647) ∧
                (¬ (g13 78 a0) = a1 → ((0 ≤ a0 ∧ a0 < 2392) ∧ (iq_P N xs 110 0 [some (iq_r 77), some (iq_i 0), none] [] (iq_uz g13 78 a0 a1) l14 (fun r g16 l17 => r = none ∧ (iq_P N xs 177 76 [some (iq_r 77), some (iq_i a0), some (iq_i a1), some (iq_i (g16 78 1))] [] g16 l17 Q))))) ∧
                ((g13 78 a0) = a1 → (iq_P N xs 98 0 [some (iq_r 77), some (iq_i 7)] [] g13 l14 (fun r g18 l19 => ∃ z20, r = some (iq_i z20) ∧ (Q (some (iq_i z20)) g18 l19))))))) ∧
              (z15 = (0 : Int) → (iq_P N xs 98 0 [some (iq_r 77), some (iq_i 1)] [] g13 l14 (fun r g21 l22 => ∃ z23, r = some (iq_i z23) ∧ (Q (some (iq_i z23)) g21 l22))))))))))))))) :
    iq_P N xs 177 0 [some (iq_r 77), some (iq_i a0), some (iq_i a1), none] [] g l Q := iq_w_ok (cuts := [76]) 38 0 _ _ _ _ H

-- ScaleForgeModel.rule(II)I at 76
set_option maxRecDepth 20000 in
theorem B177_p76_77 {N : Nat} {xs : Nat → Int32} {Q : iq_T} (v1 : Int) (v2 : Int) (v3 : Int) (g : iq_I) (l : iq_J) (H : (-2147483648 ≤ v3 ∧ v3 ≤ 2147483647) ∧
    ((60 : Int) ≤ v3 → (iq_P N xs 114 0 [some (iq_r 77)] [] g l (fun r g1 l2 => r = none ∧ (iq_P N xs 115 0 [some (iq_r 77), some (iq_i (g1 77 26))] [] g1 l2 (fun r g3 l4 => ∃ z5, r = some (iq_i z5) ∧ (Q (some (iq_i z5)) g3 l4)))))) ∧
    (v3 < (60 : Int) → ((0 ≤ (20 + v3) ∧ (20 + v3) < 2392) ∧ (iq_P N xs 177 76 [some (iq_r 77), some (iq_i v1), some (iq_i v2), some (iq_i (v3 + 1))] [] (iq_uz g 78 (20 + v3) 0) l Q)))) :
    iq_P N xs 177 76 [some (iq_r 77), some (iq_i v1), some (iq_i v2), some (iq_i v3)] [] g l Q := iq_w_ok (cuts := [76]) 12 76 _ _ _ _ H

-- ScaleForge$Scale.strike(I)Z at 0
set_option maxRecDepth 20000 in
theorem B178_23 {N : Nat} {xs : Nat → Int32} {Q : iq_T} (a0 : Int) (g : iq_I) (l : iq_J) (H : iq_P N xs 77 0 [some (iq_r 23), some (iq_i a0)] [] g l (fun r g1 l2 => ∃ z3, r = some (iq_i z3) ∧ ((-2147483648 ≤ z3 ∧ z3 ≤ 2147483647) ∧
      (z3 = (0 : Int) → (Q (some (iq_i 0)) g1 l2)) ∧
      (¬ z3 = (0 : Int) → (iq_P N xs 74 0 [some (iq_l (l2 23 3)), none, some (iq_i a0)] [] g1 l2 (fun r g4 l5 => ∃ z6, r = some (iq_i z6) ∧ ((-2147483648 ≤ z6 ∧ z6 ≤ 2147483647) ∧
          (z6 = (0 : Int) → (iq_P N xs 6 0 [some (iq_i a0)] [] g4 l5 (fun r g7 l8 => ∃ x9, r = some (iq_l x9) ∧ ((0 ≤ (0 : Int) ∧ 0 ≤ (1 : Int) ∧ 0 ≤ (11 : Int) ∧ (0 : Int) + 11 ≤ 12 ∧ (1 : Int) + 11 ≤ 12) ∧ (iq_P N xs 95 0 [some (iq_i ((g7 23 2) + 1)), some (iq_i 12)] [] (iq_uz (iq_rz g7 25 (iq_cz (g7 25) (g7 25) 0 1 11)) 25 0 a0) (iq_uz l8 23 3 ((l5 23 3) ||| x9)) (fun r g10 l11 => ∃ z12, r = some (iq_i z12) ∧ (Q (some (iq_i 1)) (iq_uz g10 23 2 z12) l11))))))) ∧
          (¬ z6 = (0 : Int) → (Q (some (iq_i 0)) g4 l5))))))))) :
    iq_P N xs 178 0 [some (iq_r 23), some (iq_i a0)] [] g l Q := iq_w_ok (cuts := []) 39 0 _ _ _ _ H

-- ScaleForge$Scale.strike(I)Z at 0
set_option maxRecDepth 20000 in
theorem B178_44 {N : Nat} {xs : Nat → Int32} {Q : iq_T} (a0 : Int) (g : iq_I) (l : iq_J) (H : iq_P N xs 77 0 [some (iq_r 44), some (iq_i a0)] [] g l (fun r g1 l2 => ∃ z3, r = some (iq_i z3) ∧ ((-2147483648 ≤ z3 ∧ z3 ≤ 2147483647) ∧
      (z3 = (0 : Int) → (Q (some (iq_i 0)) g1 l2)) ∧
      (¬ z3 = (0 : Int) → (iq_P N xs 74 0 [some (iq_l (l2 44 3)), none, some (iq_i a0)] [] g1 l2 (fun r g4 l5 => ∃ z6, r = some (iq_i z6) ∧ ((-2147483648 ≤ z6 ∧ z6 ≤ 2147483647) ∧
          (z6 = (0 : Int) → (iq_P N xs 6 0 [some (iq_i a0)] [] g4 l5 (fun r g7 l8 => ∃ x9, r = some (iq_l x9) ∧ ((0 ≤ (0 : Int) ∧ 0 ≤ (1 : Int) ∧ 0 ≤ (11 : Int) ∧ (0 : Int) + 11 ≤ 12 ∧ (1 : Int) + 11 ≤ 12) ∧ (iq_P N xs 95 0 [some (iq_i ((g7 44 2) + 1)), some (iq_i 12)] [] (iq_uz (iq_rz g7 46 (iq_cz (g7 46) (g7 46) 0 1 11)) 46 0 a0) (iq_uz l8 44 3 ((l5 44 3) ||| x9)) (fun r g10 l11 => ∃ z12, r = some (iq_i z12) ∧ (Q (some (iq_i 1)) (iq_uz g10 44 2 z12) l11))))))) ∧
          (¬ z6 = (0 : Int) → (Q (some (iq_i 0)) g4 l5))))))))) :
    iq_P N xs 178 0 [some (iq_r 44), some (iq_i a0)] [] g l Q := iq_w_ok (cuts := []) 39 0 _ _ _ _ H

-- ScaleForge.press(I)I at 0
set_option maxRecDepth 20000 in
theorem B179_0 {N : Nat} {xs : Nat → Int32} {Q : iq_T} (a0 : Int) (g : iq_I) (l : iq_J) (H : iq_P N xs 77 0 [some (iq_r 23), some (iq_i a0)] [] g l (fun r g1 l2 => ∃ z3, r = some (iq_i z3) ∧ ((-2147483648 ≤ z3 ∧ z3 ≤ 2147483647) ∧
      (¬ z3 = (0 : Int) → (iq_P N xs 178 0 [some (iq_r 23), some (iq_i a0)] [] g1 l2 (fun r g4 l5 => ∃ z6, r = some (iq_i z6) ∧ ((-2147483648 ≤ z6 ∧ z6 ≤ 2147483647) ∧
          (z6 = (0 : Int) → (iq_P N xs 44 0 [some (iq_r 0), some (iq_i 7)] [] g4 l5 (fun r g7 l8 => ∃ z9, r = some (iq_i z9) ∧ (Q (some (iq_i z9)) g7 l8)))) ∧
          (¬ z6 = (0 : Int) → (iq_P N xs 88 0 [some (iq_l (l5 23 3)), none] [] g4 l5 (fun r g10 l11 => ∃ z12, r = some (iq_i z12) ∧ (iq_P N xs 90 0 [some (iq_r 0), some (iq_i z12)] [] g10 l11 (fun r g13 l14 => ∃ z15, r = some (iq_i z15) ∧ (Q (some (iq_i z15)) g13 l14)))))))))) ∧
      (z3 = (0 : Int) → (iq_P N xs 44 0 [some (iq_r 0), some (iq_i 1)] [] g1 l2 (fun r g16 l17 => ∃ z18, r = some (iq_i z18) ∧ (Q (some (iq_i z18)) g16 l17))))))) :
    iq_P N xs 179 0 [some (iq_r 0), some (iq_i a0)] [] g l Q := iq_w_ok (cuts := []) 18 0 _ _ _ _ H

-- ScaleForgeModel.presses(I)Z at 0
set_option maxRecDepth 20000 in
theorem B180_77 {N : Nat} {xs : Nat → Int32} {Q : iq_T} (a0 : Int) (g : iq_I) (l : iq_J) (H : iq_P N xs 158 0 [some (iq_r 77), some (iq_i a0)] [] g l (fun r g1 l2 => ∃ z3, r = some (iq_i z3) ∧ ((-2147483648 ≤ z3 ∧ z3 ≤ 2147483647) ∧
      (z3 = (0 : Int) → (Q (some (iq_i 0)) g1 l2)) ∧
      (¬ z3 = (0 : Int) → (iq_P N xs 143 0 [some (iq_r 77), some (iq_i a0)] [] g1 l2 (fun r g4 l5 => ∃ z6, r = some (iq_i z6) ∧ ((-2147483648 ≤ z6 ∧ z6 ≤ 2147483647) ∧
          (¬ z6 = (1 : Int) → ((0 ≤ (20 + a0) ∧ (20 + a0) < 2392) ∧ (iq_P N xs 180 32 [some (iq_r 77), some (iq_i a0), some (iq_i 11)] [] (iq_uz g4 78 (20 + a0) 1) l5 Q))) ∧
          (z6 = (1 : Int) → (Q (some (iq_i 0)) g4 l5))))))))) :
    iq_P N xs 180 0 [some (iq_r 77), some (iq_i a0), none] [] g l Q := iq_w_ok (cuts := [32]) 18 0 _ _ _ _ H

-- ScaleForgeModel.presses(I)Z at 32
set_option maxRecDepth 20000 in
theorem B180_p32_77 {N : Nat} {xs : Nat → Int32} {Q : iq_T} (v1 : Int) (v2 : Int) (g : iq_I) (l : iq_J) (H : (-2147483648 ≤ v2 ∧ v2 ≤ 2147483647) ∧
    (v2 ≤ (0 : Int) → (iq_P N xs 95 0 [some (iq_i 12), some (iq_i ((g 78 9) + 1))] [] (iq_uz g 78 80 v1) l (fun r g1 l2 => ∃ z3, r = some (iq_i z3) ∧ (Q (some (iq_i 1)) (iq_uz g1 78 9 z3) l2)))) ∧
    ((0 : Int) < v2 → ((0 ≤ ((80 + v2) - 1) ∧ ((80 + v2) - 1) < 2392) ∧ ((0 ≤ (80 + v2) ∧ (80 + v2) < 2392) ∧ (iq_P N xs 180 32 [some (iq_r 77), some (iq_i v1), some (iq_i (v2 + (-1)))] [] (iq_uz g 78 (80 + v2) (g 78 ((80 + v2) - 1))) l Q))))) :
    iq_P N xs 180 32 [some (iq_r 77), some (iq_i v1), some (iq_i v2)] [] g l Q := iq_w_ok (cuts := [32]) 21 32 _ _ _ _ H

-- ScaleForgeModel.press(I)I at 0
set_option maxRecDepth 20000 in
theorem B181_77 {N : Nat} {xs : Nat → Int32} {Q : iq_T} (a0 : Int) (g : iq_I) (l : iq_J) (H : iq_P N xs 158 0 [some (iq_r 77), some (iq_i a0)] [] g l (fun r g1 l2 => ∃ z3, r = some (iq_i z3) ∧ ((-2147483648 ≤ z3 ∧ z3 ≤ 2147483647) ∧
      (¬ z3 = (0 : Int) → (iq_P N xs 180 0 [some (iq_r 77), some (iq_i a0), none] [] g1 l2 (fun r g4 l5 => ∃ z6, r = some (iq_i z6) ∧ ((-2147483648 ≤ z6 ∧ z6 ≤ 2147483647) ∧
          (z6 = (0 : Int) → (iq_P N xs 98 0 [some (iq_r 77), some (iq_i 7)] [] g4 l5 (fun r g7 l8 => ∃ z9, r = some (iq_i z9) ∧ (Q (some (iq_i z9)) g7 l8)))) ∧
          (¬ z6 = (0 : Int) → (iq_P N xs 144 0 [some (iq_r 77), none, none] [] g4 l5 (fun r g10 l11 => ∃ z12, r = some (iq_i z12) ∧ (iq_P N xs 115 0 [some (iq_r 77), some (iq_i z12)] [] g10 l11 (fun r g13 l14 => ∃ z15, r = some (iq_i z15) ∧ (Q (some (iq_i z15)) g13 l14)))))))))) ∧
      (z3 = (0 : Int) → (iq_P N xs 98 0 [some (iq_r 77), some (iq_i 1)] [] g1 l2 (fun r g16 l17 => ∃ z18, r = some (iq_i z18) ∧ (Q (some (iq_i z18)) g16 l17))))))) :
    iq_P N xs 181 0 [some (iq_r 77), some (iq_i a0)] [] g l Q := iq_w_ok (cuts := []) 14 0 _ _ _ _ H

-- ScaleForge$Scale.release(I)Z at 0
set_option maxRecDepth 20000 in
theorem B182_23 {N : Nat} {xs : Nat → Int32} {Q : iq_T} (a0 : Int) (g : iq_I) (l : iq_J) (H : iq_P N xs 74 0 [some (iq_l (l 23 3)), none, some (iq_i a0)] [] g l (fun r g1 l2 => ∃ z3, r = some (iq_i z3) ∧ ((-2147483648 ≤ z3 ∧ z3 ≤ 2147483647) ∧
      (¬ z3 = (0 : Int) → (iq_P N xs 6 0 [some (iq_i a0)] [] g1 l2 (fun r g4 l5 => ∃ x6, r = some (iq_l x6) ∧ (Q (some (iq_i 1)) g4 (iq_uz l5 23 3 ((l2 23 3) &&& (x6 ^^^ (Int64.ofNat 18446744073709551615)))))))) ∧
      (z3 = (0 : Int) → (Q (some (iq_i 0)) g1 l2))))) :
    iq_P N xs 182 0 [some (iq_r 23), some (iq_i a0)] [] g l Q := iq_w_ok (cuts := []) 16 0 _ _ _ _ H

-- ScaleForge$Scale.release(I)Z at 0
set_option maxRecDepth 20000 in
theorem B182_44 {N : Nat} {xs : Nat → Int32} {Q : iq_T} (a0 : Int) (g : iq_I) (l : iq_J) (H : iq_P N xs 74 0 [some (iq_l (l 44 3)), none, some (iq_i a0)] [] g l (fun r g1 l2 => ∃ z3, r = some (iq_i z3) ∧ ((-2147483648 ≤ z3 ∧ z3 ≤ 2147483647) ∧
      (¬ z3 = (0 : Int) → (iq_P N xs 6 0 [some (iq_i a0)] [] g1 l2 (fun r g4 l5 => ∃ x6, r = some (iq_l x6) ∧ (Q (some (iq_i 1)) g4 (iq_uz l5 44 3 ((l2 44 3) &&& (x6 ^^^ (Int64.ofNat 18446744073709551615)))))))) ∧
      (z3 = (0 : Int) → (Q (some (iq_i 0)) g1 l2))))) :
    iq_P N xs 182 0 [some (iq_r 44), some (iq_i a0)] [] g l Q := iq_w_ok (cuts := []) 16 0 _ _ _ _ H
