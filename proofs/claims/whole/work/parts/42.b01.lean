/-! What must hold that a stretch of a method ends well: methods 296 to 312. -/
-- ScaleForgeModel.shapes(I)I at 0
set_option maxRecDepth 20000 in
theorem B296_77 {N : Nat} {xs : Nat → Int32} {Q : iq_T} (a0 : Int) (g : iq_I) (l : iq_J) (H : iq_P N xs 149 0 [some (iq_l (iq_i2l a0)), none, some (iq_l (1 : Int64)), none, some (iq_l (Int64.ofNat 3)), none] [] g l (fun r g1 l2 => ∃ z3, r = some (iq_i z3) ∧ ((-2147483648 ≤ z3 ∧ z3 ≤ 2147483647) ∧
      (¬ z3 = (0 : Int) → (iq_P N xs 114 0 [some (iq_r 77)] [] g1 l2 (fun r g4 l5 => r = none ∧ (iq_P N xs 296 26 [some (iq_r 77), some (iq_i a0), some (iq_i 0), some (iq_i 0), none, none] [] g4 l5 Q)))) ∧
      (z3 = (0 : Int) → (iq_P N xs 98 0 [some (iq_r 77), some (iq_i 1)] [] g1 l2 (fun r g6 l7 => ∃ z8, r = some (iq_i z8) ∧ (Q (some (iq_i z8)) g6 l7))))))) :
    iq_P N xs 296 0 [some (iq_r 77), some (iq_i a0), none, none, none, none] [] g l Q := iq_w_ok (cuts := [26, 48, 73, 118, 190]) 12 0 _ _ _ _ H

-- ScaleForgeModel.shapes(I)I at 26
set_option maxRecDepth 20000 in
theorem B296_p26_77 {N : Nat} {xs : Nat → Int32} {Q : iq_T} (v1 : Int) (v2 : Int) (v3 : Int) (g : iq_I) (l : iq_J) (H : (-2147483648 ≤ v3 ∧ v3 ≤ 2147483647) ∧
    ((3600 : Int) ≤ v3 → (iq_P N xs 296 48 [some (iq_r 77), some (iq_i v1), some (iq_i v2), some (iq_i 0), none, none] [] g l Q)) ∧
    (v3 < (3600 : Int) → ((0 ≤ v3 ∧ v3 < 3600) ∧ (iq_P N xs 296 26 [some (iq_r 77), some (iq_i v1), some (iq_i v2), some (iq_i (v3 + 1)), none, none] [] (iq_uz g 94 v3 0) l Q)))) :
    iq_P N xs 296 26 [some (iq_r 77), some (iq_i v1), some (iq_i v2), some (iq_i v3), none, none] [] g l Q := iq_w_ok (cuts := [26, 48, 73, 118, 190]) 10 26 _ _ _ _ H

-- ScaleForgeModel.shapes(I)I at 48
set_option maxRecDepth 20000 in
theorem B296_p48_77 {N : Nat} {xs : Nat → Int32} {Q : iq_T} (v1 : Int) (v2 : Int) (v3 : Int) (d4 : Option iq_V) (d5 : Option iq_V) (g : iq_I) (l : iq_J) (H : (-2147483648 ≤ v3 ∧ v3 ≤ 2147483647 ∧ -2147483648 ≤ (g 77 26) ∧ (g 77 26) ≤ 2147483647) ∧
    ((g 77 26) ≤ v3 → (iq_P N xs 296 190 [some (iq_r 77), some (iq_i v1), some (iq_i v2), some (iq_i 0), (iq_nv d4), (iq_nv d5)] [] g l Q)) ∧
    (v3 < (g 77 26) → ((-2147483648 ≤ v1 ∧ v1 ≤ 2147483647) ∧
      (¬ v1 = (1 : Int) → (iq_P N xs 296 73 [some (iq_r 77), some (iq_i v1), some (iq_i v2), some (iq_i v3), some (iq_i (v3 + 1)), (iq_nv d5)] [] g l Q)) ∧
      (v1 = (1 : Int) → (iq_P N xs 296 73 [some (iq_r 77), some (iq_i v1), some (iq_i v2), some (iq_i v3), some (iq_i (v3 + 1)), (iq_nv d5)] [] (iq_uz g 94 0 1) l Q))))) :
    iq_P N xs 296 48 [some (iq_r 77), some (iq_i v1), some (iq_i v2), some (iq_i v3), d4, d5] [] g l Q := iq_w_ok (cuts := [26, 48, 73, 118, 190]) 16 48 _ _ _ _ H

-- ScaleForgeModel.shapes(I)I at 73
set_option maxRecDepth 20000 in
theorem B296_p73_77 {N : Nat} {xs : Nat → Int32} {Q : iq_T} (v1 : Int) (v2 : Int) (v3 : Int) (v4 : Int) (d5 : Option iq_V) (g : iq_I) (l : iq_J) (H : (-2147483648 ≤ v4 ∧ v4 ≤ 2147483647 ∧ -2147483648 ≤ (g 77 26) ∧ (g 77 26) ≤ 2147483647) ∧
    ((g 77 26) ≤ v4 → (iq_P N xs 296 48 [some (iq_r 77), some (iq_i v1), some (iq_i v2), some (iq_i (v3 + 1)), some (iq_i v4), (iq_nv d5)] [] g l Q)) ∧
    (v4 < (g 77 26) → ((-2147483648 ≤ v1 ∧ v1 ≤ 2147483647) ∧
      (v1 ≤ (1 : Int) → (iq_P N xs 296 48 [some (iq_r 77), some (iq_i v1), some (iq_i v2), some (iq_i (v3 + 1)), some (iq_i v4), (iq_nv d5)] [] g l Q)) ∧
      ((1 : Int) < v1 → ((-2147483648 ≤ v1 ∧ v1 ≤ 2147483647) ∧
        (¬ v1 = (2 : Int) → (iq_P N xs 296 118 [some (iq_r 77), some (iq_i v1), some (iq_i v2), some (iq_i v3), some (iq_i v4), some (iq_i (v4 + 1))] [] g l Q)) ∧
        (v1 = (2 : Int) → ((0 ≤ v4 ∧ v4 < 24) ∧ ((0 ≤ v3 ∧ v3 < 24) ∧ ((0 ≤ ((g 85 v4) - (g 85 v3)) ∧ ((g 85 v4) - (g 85 v3)) < 3600) ∧ (iq_P N xs 296 118 [some (iq_r 77), some (iq_i v1), some (iq_i v2), some (iq_i v3), some (iq_i v4), some (iq_i (v4 + 1))] [] (iq_uz g 94 ((g 85 v4) - (g 85 v3)) 1) l Q)))))))))) :
    iq_P N xs 296 73 [some (iq_r 77), some (iq_i v1), some (iq_i v2), some (iq_i v3), some (iq_i v4), d5] [] g l Q := iq_w_ok (cuts := [26, 48, 73, 118, 190]) 27 73 _ _ _ _ H

-- ScaleForgeModel.shapes(I)I at 118
set_option maxRecDepth 20000 in
theorem B296_p118_77 {N : Nat} {xs : Nat → Int32} {Q : iq_T} (v1 : Int) (v2 : Int) (v3 : Int) (v4 : Int) (v5 : Int) (g : iq_I) (l : iq_J) (H : (-2147483648 ≤ v5 ∧ v5 ≤ 2147483647 ∧ -2147483648 ≤ (g 77 26) ∧ (g 77 26) ≤ 2147483647) ∧
    ((g 77 26) ≤ v5 → (iq_P N xs 296 73 [some (iq_r 77), some (iq_i v1), some (iq_i v2), some (iq_i v3), some (iq_i (v4 + 1)), some (iq_i v5)] [] g l Q)) ∧
    (v5 < (g 77 26) → ((-2147483648 ≤ v1 ∧ v1 ≤ 2147483647) ∧
      (¬ v1 = (3 : Int) → (iq_P N xs 296 73 [some (iq_r 77), some (iq_i v1), some (iq_i v2), some (iq_i v3), some (iq_i (v4 + 1)), some (iq_i v5)] [] g l Q)) ∧
      (v1 = (3 : Int) → ((0 ≤ v4 ∧ v4 < 24) ∧ ((0 ≤ v3 ∧ v3 < 24) ∧ ((0 ≤ v5 ∧ v5 < 24) ∧ ((0 ≤ v3 ∧ v3 < 24) ∧ ((0 ≤ (((60 * ((g 85 v4) - (g 85 v3))) + (g 85 v5)) - (g 85 v3)) ∧ (((60 * ((g 85 v4) - (g 85 v3))) + (g 85 v5)) - (g 85 v3)) < 3600) ∧ (iq_P N xs 296 118 [some (iq_r 77), some (iq_i v1), some (iq_i v2), some (iq_i v3), some (iq_i v4), some (iq_i (v5 + 1))] [] (iq_uz g 94 (((60 * ((g 85 v4) - (g 85 v3))) + (g 85 v5)) - (g 85 v3)) 1) l Q)))))))))) :
    iq_P N xs 296 118 [some (iq_r 77), some (iq_i v1), some (iq_i v2), some (iq_i v3), some (iq_i v4), some (iq_i v5)] [] g l Q := iq_w_ok (cuts := [26, 48, 73, 118, 190]) 34 118 _ _ _ _ H

-- ScaleForgeModel.shapes(I)I at 190
set_option maxRecDepth 20000 in
theorem B296_p190_77 {N : Nat} {xs : Nat → Int32} {Q : iq_T} (v1 : Int) (v2 : Int) (v3 : Int) (d4 : Option iq_V) (d5 : Option iq_V) (g : iq_I) (l : iq_J) (H : (-2147483648 ≤ v3 ∧ v3 ≤ 2147483647) ∧
    ((3600 : Int) ≤ v3 → (iq_P N xs 115 0 [some (iq_r 77), some (iq_i v2)] [] g l (fun r g1 l2 => ∃ z3, r = some (iq_i z3) ∧ (Q (some (iq_i z3)) g1 l2)))) ∧
    (v3 < (3600 : Int) → ((0 ≤ v3 ∧ v3 < 3600) ∧ ((-2147483648 ≤ (g 94 v3) ∧ (g 94 v3) ≤ 2147483647) ∧
      ((g 94 v3) = (0 : Int) → (iq_P N xs 296 190 [some (iq_r 77), some (iq_i v1), some (iq_i (v2 + 0)), some (iq_i (v3 + 1)), (iq_nv d4), (iq_nv d5)] [] g l Q)) ∧
      (¬ (g 94 v3) = (0 : Int) → (iq_P N xs 296 190 [some (iq_r 77), some (iq_i v1), some (iq_i (v2 + 1)), some (iq_i (v3 + 1)), (iq_nv d4), (iq_nv d5)] [] g l Q)))))) :
    iq_P N xs 296 190 [some (iq_r 77), some (iq_i v1), some (iq_i v2), some (iq_i v3), d4, d5] [] g l Q := iq_w_ok (cuts := [26, 48, 73, 118, 190]) 15 190 _ _ _ _ H

-- ScaleForge.convergents()I at 0
set_option maxRecDepth 20000 in
theorem B297_0 {N : Nat} {xs : Nat → Int32} {Q : iq_T} (g : iq_I) (l : iq_J) (H : iq_P N xs 80 0 [some (iq_r 23)] [] g l (fun r g1 l2 => ∃ z3, r = some (iq_i z3) ∧ (iq_P N xs 135 0 [some (iq_r 23), some (iq_i 2)] [] g1 l2 (fun r g4 l5 => ∃ z6, r = some (iq_i z6) ∧ (iq_P N xs 297 22 [some (iq_r 0), some (iq_i z3), some (iq_i z6), some (iq_i 1), some (iq_i 0), none] [] g4 l5 Q))))) :
    iq_P N xs 297 0 [some (iq_r 0), none, none, none, none, none] [] g l Q := iq_w_ok (cuts := [22]) 13 0 _ _ _ _ H

-- ScaleForge.convergents()I at 22
set_option maxRecDepth 20000 in
theorem B297_p22_0 {N : Nat} {xs : Nat → Int32} {Q : iq_T} (v1 : Int) (v2 : Int) (v3 : Int) (v4 : Int) (d5 : Option iq_V) (g : iq_I) (l : iq_J) (H : (-2147483648 ≤ v4 ∧ v4 ≤ 2147483647) ∧
    ((60 : Int) ≤ v4 → (iq_P N xs 90 0 [some (iq_r 0), some (iq_i v3)] [] g l (fun r g1 l2 => ∃ z3, r = some (iq_i z3) ∧ (Q (some (iq_i z3)) g1 l2)))) ∧
    (v4 < (60 : Int) → ((-2147483648 ≤ v2 ∧ v2 ≤ 2147483647) ∧
      (v2 ≤ (0 : Int) → (iq_P N xs 90 0 [some (iq_r 0), some (iq_i v3)] [] g l (fun r g4 l5 => ∃ z6, r = some (iq_i z6) ∧ (Q (some (iq_i z6)) g4 l5)))) ∧
      ((0 : Int) < v2 → ((-2147483648 < v1 ∧ v1 ≤ 2147483647 ∧ -2147483648 ≤ v2 ∧ v2 ≤ 2147483647 ∧ ¬ v2 = 0) ∧ (iq_P N xs 297 22 [some (iq_r 0), some (iq_i v2), some (iq_i (Int.tmod v1 v2)), some (iq_i (v3 + 1)), some (iq_i (v4 + 1)), some (iq_i (Int.tmod v1 v2))] [] g l Q)))))) :
    iq_P N xs 297 22 [some (iq_r 0), some (iq_i v1), some (iq_i v2), some (iq_i v3), some (iq_i v4), d5] [] g l Q := iq_w_ok (cuts := [22]) 16 22 _ _ _ _ H

-- ScaleForgeModel.laysConvergents()I at 0
set_option maxRecDepth 20000 in
theorem B298_77 {N : Nat} {xs : Nat → Int32} {Q : iq_T} (g : iq_I) (l : iq_J) (H : iq_P N xs 298 30 [some (iq_r 77), some (iq_i 1), some (iq_i (g 78 1)), some (iq_i (g 78 2)), none, none, none, none, none, none] [] g (iq_uz (iq_uz l 97 0 (0 : Int64)) 98 0 (1 : Int64)) Q) :
    iq_P N xs 298 0 [some (iq_r 77), none, none, none, none, none, none, none, none, none] [] g l Q := iq_w_ok (cuts := [30, 98]) 22 0 _ _ _ _ H

-- ScaleForgeModel.laysConvergents()I at 30
set_option maxRecDepth 20000 in
theorem B298_p30_77 {N : Nat} {xs : Nat → Int32} {Q : iq_T} (v1 : Int) (v2 : Int) (v3 : Int) (d4 : Option iq_V) (d5 : Option iq_V) (d7 : Option iq_V) (d9 : Option iq_V) (g : iq_I) (l : iq_J) (H : (-2147483648 ≤ v3 ∧ v3 ≤ 2147483647) ∧
    (v3 = (0 : Int) → (Q (some (iq_i v1)) g l)) ∧
    (¬ v3 = (0 : Int) → ((-2147483648 < v2 ∧ v2 ≤ 2147483647 ∧ -2147483648 ≤ v3 ∧ v3 ≤ 2147483647 ∧ ¬ v3 = 0) ∧ ((-2147483648 ≤ v1 ∧ v1 ≤ 2147483647) ∧
      (¬ v1 = (1 : Int) → ((0 ≤ (v1 - 2) ∧ (v1 - 2) < 60) ∧ ((-2147483648 ≤ v1 ∧ v1 ≤ 2147483647) ∧
        (¬ v1 = (1 : Int) → ((0 ≤ (v1 - 2) ∧ (v1 - 2) < 60) ∧ ((0 ≤ (v1 - 1) ∧ (v1 - 1) < 60) ∧ ((0 ≤ v1 ∧ v1 < 60) ∧ (iq_P N xs 298 98 [some (iq_r 77), some (iq_i v1), some (iq_i v2), some (iq_i v3), some (iq_i (Int.tdiv v2 v3)), some (iq_l (l 97 (v1 - 2))), none, some (iq_l (l 98 (v1 - 2))), none, (iq_nv d9)] [] g (iq_uz l 97 v1 (((iq_i2l (Int.tdiv v2 v3)) * (l 97 (v1 - 1))) + (l 97 (v1 - 2)))) Q))))) ∧
        (v1 = (1 : Int) → ((0 ≤ (v1 - 1) ∧ (v1 - 1) < 60) ∧ ((0 ≤ v1 ∧ v1 < 60) ∧ (iq_P N xs 298 98 [some (iq_r 77), some (iq_i v1), some (iq_i v2), some (iq_i v3), some (iq_i (Int.tdiv v2 v3)), some (iq_l (l 97 (v1 - 2))), none, some (iq_l (0 : Int64)), none, (iq_nv d9)] [] g (iq_uz l 97 v1 (((iq_i2l (Int.tdiv v2 v3)) * (l 97 (v1 - 1))) + (l 97 (v1 - 2)))) Q))))))) ∧
      (v1 = (1 : Int) → ((-2147483648 ≤ v1 ∧ v1 ≤ 2147483647) ∧
        (¬ v1 = (1 : Int) → ((0 ≤ (v1 - 2) ∧ (v1 - 2) < 60) ∧ ((0 ≤ (v1 - 1) ∧ (v1 - 1) < 60) ∧ ((0 ≤ v1 ∧ v1 < 60) ∧ (iq_P N xs 298 98 [some (iq_r 77), some (iq_i v1), some (iq_i v2), some (iq_i v3), some (iq_i (Int.tdiv v2 v3)), some (iq_l (1 : Int64)), none, some (iq_l (l 98 (v1 - 2))), none, (iq_nv d9)] [] g (iq_uz l 97 v1 (((iq_i2l (Int.tdiv v2 v3)) * (l 97 (v1 - 1))) + (1 : Int64))) Q))))) ∧
        (v1 = (1 : Int) → ((0 ≤ (v1 - 1) ∧ (v1 - 1) < 60) ∧ ((0 ≤ v1 ∧ v1 < 60) ∧ (iq_P N xs 298 98 [some (iq_r 77), some (iq_i v1), some (iq_i v2), some (iq_i v3), some (iq_i (Int.tdiv v2 v3)), some (iq_l (1 : Int64)), none, some (iq_l (0 : Int64)), none, (iq_nv d9)] [] g (iq_uz l 97 v1 (((iq_i2l (Int.tdiv v2 v3)) * (l 97 (v1 - 1))) + (1 : Int64))) Q)))))))))) :
    iq_P N xs 298 30 [some (iq_r 77), some (iq_i v1), some (iq_i v2), some (iq_i v3), d4, d5, none, d7, none, d9] [] g l Q := iq_w_ok (cuts := [30, 98]) 41 30 _ _ _ _ H

-- ScaleForgeModel.laysConvergents()I at 98
set_option maxRecDepth 20000 in
theorem B298_p98_77 {N : Nat} {xs : Nat → Int32} {Q : iq_T} (v1 : Int) (v2 : Int) (v3 : Int) (v4 : Int) (v5 : Int64) (v7 : Int64) (d9 : Option iq_V) (g : iq_I) (l : iq_J) (H : (0 ≤ (v1 - 1) ∧ (v1 - 1) < 60) ∧ ((0 ≤ v1 ∧ v1 < 60) ∧ ((-2147483648 < v2 ∧ v2 ≤ 2147483647 ∧ -2147483648 ≤ v3 ∧ v3 ≤ 2147483647 ∧ ¬ v3 = 0) ∧ (iq_P N xs 298 30 [some (iq_r 77), some (iq_i (v1 + 1)), some (iq_i v3), some (iq_i (Int.tmod v2 v3)), some (iq_i v4), some (iq_l v5), none, some (iq_l v7), none, some (iq_i (Int.tmod v2 v3))] [] g (iq_uz l 98 v1 (((iq_i2l v4) * (l 98 (v1 - 1))) + v7)) Q)))) :
    iq_P N xs 298 98 [some (iq_r 77), some (iq_i v1), some (iq_i v2), some (iq_i v3), some (iq_i v4), some (iq_l v5), none, some (iq_l v7), none, d9] [] g l Q := iq_w_ok (cuts := [30, 98]) 25 98 _ _ _ _ H

-- ScaleForgeModel.convergents()I at 0
set_option maxRecDepth 20000 in
theorem B299_77 {N : Nat} {xs : Nat → Int32} {Q : iq_T} (g : iq_I) (l : iq_J) (H : iq_P N xs 298 0 [some (iq_r 77), none, none, none, none, none, none, none, none, none] [] g l (fun r g1 l2 => ∃ z3, r = some (iq_i z3) ∧ (iq_P N xs 115 0 [some (iq_r 77), some (iq_i z3)] [] g1 l2 (fun r g4 l5 => ∃ z6, r = some (iq_i z6) ∧ (Q (some (iq_i z6)) g4 l5))))) :
    iq_P N xs 299 0 [some (iq_r 77)] [] g l Q := iq_w_ok (cuts := []) 5 0 _ _ _ _ H

-- ScaleForge.commonDivisor(JJ)J at 0
set_option maxRecDepth 20000 in
theorem B300 {N : Nat} {xs : Nat → Int32} {Q : iq_T} (a0 : Int64) (a1 : Int64) (g : iq_I) (l : iq_J) (H : iq_P N xs 300 9 [some (iq_l a0), none, some (iq_l a1), none, some (iq_l a0), none, some (iq_l a1), none, some (iq_i 0), none, none] [] g l Q) :
    iq_P N xs 300 0 [some (iq_l a0), none, some (iq_l a1), none, none, none, none, none, none, none, none] [] g l Q := iq_w_ok (cuts := [9]) 6 0 _ _ _ _ H

-- ScaleForge.commonDivisor(JJ)J at 9
set_option maxRecDepth 20000 in
theorem B300_p9 {N : Nat} {xs : Nat → Int32} {Q : iq_T} (v0 : Int64) (v2 : Int64) (v4 : Int64) (v6 : Int64) (v8 : Int) (d9 : Option iq_V) (g : iq_I) (l : iq_J) (H : (-2147483648 ≤ v8 ∧ v8 ≤ 2147483647) ∧
    ((128 : Int) ≤ v8 → (Q (some (iq_l v4)) g l)) ∧
    (v8 < (128 : Int) → ((-2147483648 ≤ (iq_lc v6 (0 : Int64)) ∧ (iq_lc v6 (0 : Int64)) ≤ 2147483647) ∧
      ((iq_lc v6 (0 : Int64)) = (0 : Int) → (Q (some (iq_l v4)) g l)) ∧
      (¬ (iq_lc v6 (0 : Int64)) = (0 : Int) → (¬ v6 = 0 ∧ (iq_P N xs 300 9 [some (iq_l v0), none, some (iq_l v2), none, some (iq_l v6), none, some (iq_l (v4 - v4 / v6 * v6)), none, some (iq_i (v8 + 1)), some (iq_l (v4 - v4 / v6 * v6)), none] [] g l Q)))))) :
    iq_P N xs 300 9 [some (iq_l v0), none, some (iq_l v2), none, some (iq_l v4), none, some (iq_l v6), none, some (iq_i v8), d9, none] [] g l Q := iq_w_ok (cuts := [9]) 17 9 _ _ _ _ H

-- ScaleForge.tell(JJ)Z at 0
set_option maxRecDepth 20000 in
theorem B301_0 {N : Nat} {xs : Nat → Int32} {Q : iq_T} (a0 : Int64) (a1 : Int64) (g : iq_I) (l : iq_J) (H : iq_P N xs 300 0 [some (iq_l a0), none, some (iq_l a1), none, none, none, none, none, none, none, none] [] g l (fun r g1 l2 => ∃ x3, r = some (iq_l x3) ∧ ((-2147483648 ≤ (iq_lc x3 (1 : Int64)) ∧ (iq_lc x3 (1 : Int64)) ≤ 2147483647) ∧
      ((0 : Int) ≤ (iq_lc x3 (1 : Int64)) → (¬ x3 = 0 ∧ (¬ x3 = 0 ∧ (iq_P N xs 30 0 [some (iq_r 0)] [] g1 (iq_uz (iq_uz l2 0 1 (a0 / x3)) 0 2 (a1 / x3)) (fun r g4 l5 => ∃ z6, r = some (iq_i z6) ∧ ((z6 = 0 ∨ z6 = 1) ∧ Q (some (iq_i z6)) g4 l5)))))) ∧
      ((iq_lc x3 (1 : Int64)) < (0 : Int) → (iq_P N xs 28 0 [some (iq_r 0), some (iq_i 7)] [] g1 l2 (fun r g7 l8 => ∃ z9, r = some (iq_i z9) ∧ ((z9 = 0 ∨ z9 = 1) ∧ Q (some (iq_i z9)) g7 l8))))))) :
    iq_P N xs 301 0 [some (iq_r 0), some (iq_l a0), none, some (iq_l a1), none, none, none] [] g l Q := iq_w_ok (cuts := []) 21 0 _ _ _ _ H

-- ScaleForgeModel.tellsBy(JJ)Z at 0
set_option maxRecDepth 20000 in
theorem B303_77 {N : Nat} {xs : Nat → Int32} {Q : iq_T} (a0 : Int64) (a1 : Int64) (g : iq_I) (l : iq_J) (H : iq_P N xs 303 6 [some (iq_r 77), some (iq_l a0), none, some (iq_l a1), none, some (iq_l a0), none, some (iq_l a1), none, none, none] [] g l Q) :
    iq_P N xs 303 0 [some (iq_r 77), some (iq_l a0), none, some (iq_l a1), none, none, none, none, none, none, none] [] g l Q := iq_w_ok (cuts := [6]) 4 0 _ _ _ _ H

-- ScaleForgeModel.tellsBy(JJ)Z at 6
set_option maxRecDepth 20000 in
theorem B303_p6_77 {N : Nat} {xs : Nat → Int32} {Q : iq_T} (v1 : Int64) (v3 : Int64) (v5 : Int64) (v7 : Int64) (d9 : Option iq_V) (g : iq_I) (l : iq_J) (H : (-2147483648 ≤ (iq_lc v7 (0 : Int64)) ∧ (iq_lc v7 (0 : Int64)) ≤ 2147483647) ∧
    ((iq_lc v7 (0 : Int64)) = (0 : Int) → (¬ v5 = 0 ∧ (¬ v5 = 0 ∧ (iq_P N xs 33 0 [some (iq_r 77), some (iq_i 0)] [] g (iq_uz (iq_uz l 77 2 (v1 / v5)) 77 3 (v3 / v5)) (fun r g1 l2 => ∃ z3, r = some (iq_i z3) ∧ ((z3 = 0 ∨ z3 = 1) ∧ Q (some (iq_i z3)) g1 l2)))))) ∧
    (¬ (iq_lc v7 (0 : Int64)) = (0 : Int) → (¬ v7 = 0 ∧ (iq_P N xs 303 6 [some (iq_r 77), some (iq_l v1), none, some (iq_l v3), none, some (iq_l v7), none, some (iq_l (v5 - v5 / v7 * v7)), none, some (iq_l (v5 - v5 / v7 * v7)), none] [] g l Q)))) :
    iq_P N xs 303 6 [some (iq_r 77), some (iq_l v1), none, some (iq_l v3), none, some (iq_l v5), none, some (iq_l v7), none, d9, none] [] g l Q := iq_w_ok (cuts := [6]) 18 6 _ _ _ _ H

-- ScaleForgeModel.convergent(I)Z at 0
set_option maxRecDepth 20000 in
theorem B304_77 {N : Nat} {xs : Nat → Int32} {Q : iq_T} (a0 : Int) (g : iq_I) (l : iq_J) (H : iq_P N xs 298 0 [some (iq_r 77), none, none, none, none, none, none, none, none, none] [] g l (fun r g1 l2 => ∃ z3, r = some (iq_i z3) ∧ ((-2147483648 ≤ a0 ∧ a0 ≤ 2147483647) ∧
      (a0 < (0 : Int) → (iq_P N xs 33 0 [some (iq_r 77), some (iq_i 6)] [] g1 l2 (fun r g4 l5 => ∃ z6, r = some (iq_i z6) ∧ ((z6 = 0 ∨ z6 = 1) ∧ Q (some (iq_i z6)) g4 l5)))) ∧
      ((0 : Int) ≤ a0 → ((-2147483648 ≤ a0 ∧ a0 ≤ 2147483647 ∧ -2147483648 ≤ z3 ∧ z3 ≤ 2147483647) ∧
        (a0 < z3 → ((0 ≤ a0 ∧ a0 < 60) ∧ ((0 ≤ a0 ∧ a0 < 60) ∧ (iq_P N xs 303 0 [some (iq_r 77), some (iq_l (l2 97 a0)), none, some (iq_l (l2 98 a0)), none, none, none, none, none, none, none] [] g1 l2 (fun r g7 l8 => ∃ z9, r = some (iq_i z9) ∧ ((z9 = 0 ∨ z9 = 1) ∧ Q (some (iq_i z9)) g7 l8)))))) ∧
        (z3 ≤ a0 → (iq_P N xs 33 0 [some (iq_r 77), some (iq_i 6)] [] g1 l2 (fun r g10 l11 => ∃ z12, r = some (iq_i z12) ∧ ((z12 = 0 ∨ z12 = 1) ∧ Q (some (iq_i z12)) g10 l11))))))))) :
    iq_P N xs 304 0 [some (iq_r 77), some (iq_i a0), none] [] g l Q := iq_w_ok (cuts := []) 19 0 _ _ _ _ H

-- ScaleForge.ratio()Z at 0
set_option maxRecDepth 20000 in
theorem B305_0 {N : Nat} {xs : Nat → Int32} {Q : iq_T} (g : iq_I) (l : iq_J) (H : iq_P N xs 137 0 [some (iq_r 0)] [] g l (fun r g1 l2 => iq_P N xs 305 4 [some (iq_r 0), none, none, none] (r.toList ++ []) g1 l2 Q)) :
    iq_P N xs 305 0 [some (iq_r 0), none, none, none] [] g l Q := iq_w_ok (cuts := []) 2 0 _ _ _ _ H

-- ScaleForge.ratio()Z at 4
set_option maxRecDepth 20000 in
theorem B305_q4_31 {N : Nat} {xs : Nat → Int32} {Q : iq_T} (g : iq_I) (l : iq_J) (H : iq_P N xs 141 0 [some (iq_r 31), none, none, none] [] g l (fun r g1 l2 => ∃ x3, r = some (iq_l x3) ∧ (iq_P N xs 88 0 [some (iq_l x3), none] [] g1 l2 (fun r g4 l5 => ∃ z6, r = some (iq_i z6) ∧ (iq_P N xs 166 0 [some (iq_l x3), none, some (iq_i (z6 - 1)), none, none] [] g4 l5 (fun r g7 l8 => ∃ z9, r = some (iq_i z9) ∧ (iq_P N xs 166 0 [some (iq_l x3), none, some (iq_i 0), none, none] [] g7 l8 (fun r g10 l11 => ∃ z12, r = some (iq_i z12) ∧ (iq_P N xs 301 0 [some (iq_r 0), some (iq_l (iq_i2l z9)), none, some (iq_l (iq_i2l z12)), none, none, none] [] g10 l11 (fun r g13 l14 => ∃ z15, r = some (iq_i z15) ∧ ((z15 = 0 ∨ z15 = 1) ∧ Q (some (iq_i z15)) g13 l14))))))))))) :
    iq_P N xs 305 4 [some (iq_r 0), none, none, none] [iq_r 31] g l Q := iq_w_ok (cuts := []) 18 4 _ _ _ _ H

-- ScaleForgeModel.ratio()Z at 0
set_option maxRecDepth 20000 in
theorem B306_77 {N : Nat} {xs : Nat → Int32} {Q : iq_T} (g : iq_I) (l : iq_J) (H : iq_P N xs 114 0 [some (iq_r 77)] [] g l (fun r g1 l2 => r = none ∧ ((0 ≤ ((g1 77 27) - 1) ∧ ((g1 77 27) - 1) < 24) ∧ (iq_P N xs 303 0 [some (iq_r 77), some (iq_l (iq_i2l (g1 88 ((g1 77 27) - 1)))), none, some (iq_l (iq_i2l (g1 88 0))), none, none, none, none, none, none, none] [] g1 l2 (fun r g3 l4 => ∃ z5, r = some (iq_i z5) ∧ ((z5 = 0 ∨ z5 = 1) ∧ Q (some (iq_i z5)) g3 l4)))))) :
    iq_P N xs 306 0 [some (iq_r 77)] [] g l Q := iq_w_ok (cuts := []) 18 0 _ _ _ _ H

-- ScaleForge.share(I)Z at 0
set_option maxRecDepth 20000 in
theorem B307_0 {N : Nat} {xs : Nat → Int32} {Q : iq_T} (a0 : Int) (g : iq_I) (l : iq_J) (H : iq_P N xs 137 0 [some (iq_r 0)] [] g l (fun r g1 l2 => iq_P N xs 307 4 [some (iq_r 0), some (iq_i a0), none] (r.toList ++ []) g1 l2 Q)) :
    iq_P N xs 307 0 [some (iq_r 0), some (iq_i a0), none] [] g l Q := iq_w_ok (cuts := []) 2 0 _ _ _ _ H

-- ScaleForge.share(I)Z at 4
set_option maxRecDepth 20000 in
theorem B307_q4_31 {N : Nat} {xs : Nat → Int32} {Q : iq_T} (v1 : Int) (g : iq_I) (l : iq_J) (H : iq_P N xs 141 0 [some (iq_r 31), none, none, none] [] g l (fun r g1 l2 => ∃ x3, r = some (iq_l x3) ∧ (iq_P N xs 166 0 [some (iq_l x3), none, some (iq_i v1), none, none] [] g1 l2 (fun r g4 l5 => ∃ z6, r = some (iq_i z6) ∧ ((-2147483648 ≤ z6 ∧ z6 ≤ 2147483647) ∧
        (¬ z6 = (-1 : Int) → (iq_P N xs 171 0 [some (iq_r 31), some (iq_i z6), none, none] [] g4 l5 (fun r g7 l8 => ∃ z9, r = some (iq_i z9) ∧ (iq_P N xs 301 0 [some (iq_r 0), some (iq_l (iq_i2l z9)), none, some (iq_l (iq_i2l (g7 31 3))), none, none, none] [] g7 l8 (fun r g10 l11 => ∃ z12, r = some (iq_i z12) ∧ ((z12 = 0 ∨ z12 = 1) ∧ Q (some (iq_i z12)) g10 l11)))))) ∧
        (z6 = (-1 : Int) → (iq_P N xs 28 0 [some (iq_r 0), some (iq_i 6)] [] g4 l5 (fun r g13 l14 => ∃ z15, r = some (iq_i z15) ∧ ((z15 = 0 ∨ z15 = 1) ∧ Q (some (iq_i z15)) g13 l14))))))))) :
    iq_P N xs 307 4 [some (iq_r 0), some (iq_i v1), none] [iq_r 31] g l Q := iq_w_ok (cuts := []) 19 4 _ _ _ _ H

-- ScaleForgeModel.share(I)Z at 0
set_option maxRecDepth 20000 in
theorem B308_77 {N : Nat} {xs : Nat → Int32} {Q : iq_T} (a0 : Int) (g : iq_I) (l : iq_J) (H : iq_P N xs 169 0 [some (iq_r 77), some (iq_i a0)] [] g l (fun r g1 l2 => ∃ z3, r = some (iq_i z3) ∧ ((-2147483648 ≤ z3 ∧ z3 ≤ 2147483647) ∧
      (z3 = (0 : Int) → (iq_P N xs 33 0 [some (iq_r 77), some (iq_i 6)] [] g1 l2 (fun r g4 l5 => ∃ z6, r = some (iq_i z6) ∧ ((z6 = 0 ∨ z6 = 1) ∧ Q (some (iq_i z6)) g4 l5)))) ∧
      (¬ z3 = (0 : Int) → (iq_P N xs 173 0 [some (iq_r 77), some (iq_i a0), none, none] [] g1 l2 (fun r g7 l8 => ∃ z9, r = some (iq_i z9) ∧ (iq_P N xs 303 0 [some (iq_r 77), some (iq_l (iq_i2l z9)), none, some (iq_l (iq_i2l (g7 77 26))), none, none, none, none, none, none, none] [] g7 l8 (fun r g10 l11 => ∃ z12, r = some (iq_i z12) ∧ ((z12 = 0 ∨ z12 = 1) ∧ Q (some (iq_i z12)) g10 l11))))))))) :
    iq_P N xs 308 0 [some (iq_r 77), some (iq_i a0)] [] g l Q := iq_w_ok (cuts := []) 15 0 _ _ _ _ H

-- ScaleForge.mistuned(II)Z at 0
set_option maxRecDepth 20000 in
theorem B309_0 {N : Nat} {xs : Nat → Int32} {Q : iq_T} (a0 : Int) (a1 : Int) (g : iq_I) (l : iq_J) (H : (-2147483648 ≤ a0 ∧ a0 ≤ 2147483647) ∧
    (a0 < (0 : Int) → (iq_P N xs 28 0 [some (iq_r 0), some (iq_i 1)] [] g l (fun r g1 l2 => ∃ z3, r = some (iq_i z3) ∧ ((z3 = 0 ∨ z3 = 1) ∧ Q (some (iq_i z3)) g1 l2)))) ∧
    ((0 : Int) ≤ a0 → ((-2147483648 ≤ a0 ∧ a0 ≤ 2147483647) ∧
      ((12 : Int) < a0 → (iq_P N xs 28 0 [some (iq_r 0), some (iq_i 1)] [] g l (fun r g4 l5 => ∃ z6, r = some (iq_i z6) ∧ ((z6 = 0 ∨ z6 = 1) ∧ Q (some (iq_i z6)) g4 l5)))) ∧
      (a0 ≤ (12 : Int) → ((-2147483648 ≤ a1 ∧ a1 ≤ 2147483647) ∧
        (a1 < (0 : Int) → (iq_P N xs 28 0 [some (iq_r 0), some (iq_i 1)] [] g l (fun r g7 l8 => ∃ z9, r = some (iq_i z9) ∧ ((z9 = 0 ∨ z9 = 1) ∧ Q (some (iq_i z9)) g7 l8)))) ∧
        ((0 : Int) ≤ a1 → ((-2147483648 ≤ a1 ∧ a1 ≤ 2147483647) ∧
          (a1 ≤ (12 : Int) → (iq_P N xs 135 0 [some (iq_r 23), some (iq_i 0)] [] g l (fun r g10 l11 => ∃ z12, r = some (iq_i z12) ∧ (iq_P N xs 309 38 [some (iq_r 0), some (iq_i a0), some (iq_i a1), some (iq_i z12), some (iq_i 0), none, none, none, none] [] g10 l11 Q)))) ∧
          ((12 : Int) < a1 → (iq_P N xs 28 0 [some (iq_r 0), some (iq_i 1)] [] g l (fun r g13 l14 => ∃ z15, r = some (iq_i z15) ∧ ((z15 = 0 ∨ z15 = 1) ∧ Q (some (iq_i z15)) g13 l14))))))))))) :
    iq_P N xs 309 0 [some (iq_r 0), some (iq_i a0), some (iq_i a1), none, none, none, none, none, none] [] g l Q := iq_w_ok (cuts := [38, 74, 84, 166]) 17 0 _ _ _ _ H

-- ScaleForge.mistuned(II)Z at 38
set_option maxRecDepth 20000 in
theorem B309_p38_0 {N : Nat} {xs : Nat → Int32} {Q : iq_T} (v1 : Int) (v2 : Int) (v3 : Int) (v4 : Int) (g : iq_I) (l : iq_J) (H : (-2147483648 ≤ v4 ∧ v4 ≤ 2147483647) ∧
    ((12 : Int) < v4 → (iq_P N xs 309 74 [some (iq_r 0), some (iq_i v1), some (iq_i v2), some (iq_i v3), some (iq_l (1 : Int64)), none, some (iq_i 0), none, none] [] g l Q)) ∧
    (v4 ≤ (12 : Int) → ((-2147483648 ≤ v4 ∧ v4 ≤ 2147483647) ∧
      (¬ v4 = (0 : Int) → ((0 ≤ v4 ∧ v4 < 60) ∧ (iq_P N xs 309 38 [some (iq_r 0), some (iq_i v1), some (iq_i v2), some (iq_i v3), some (iq_i (v4 + 1)), none, none, none, none] [] g (iq_uz l 39 v4 (0 : Int64)) Q))) ∧
      (v4 = (0 : Int) → ((0 ≤ v4 ∧ v4 < 60) ∧ (iq_P N xs 309 38 [some (iq_r 0), some (iq_i v1), some (iq_i v2), some (iq_i v3), some (iq_i (v4 + 1)), none, none, none, none] [] g (iq_uz l 39 v4 (1 : Int64)) Q)))))) :
    iq_P N xs 309 38 [some (iq_r 0), some (iq_i v1), some (iq_i v2), some (iq_i v3), some (iq_i v4), none, none, none, none] [] g l Q := iq_w_ok (cuts := [38, 74, 84, 166]) 13 38 _ _ _ _ H

-- ScaleForge.mistuned(II)Z at 74
set_option maxRecDepth 20000 in
theorem B309_p74_0 {N : Nat} {xs : Nat → Int32} {Q : iq_T} (v1 : Int) (v2 : Int) (v3 : Int) (v4 : Int64) (v6 : Int) (d7 : Option iq_V) (g : iq_I) (l : iq_J) (H : (-2147483648 ≤ v6 ∧ v6 ≤ 2147483647 ∧ -2147483648 ≤ v1 ∧ v1 ≤ 2147483647) ∧
    (v1 ≤ v6 → (iq_P N xs 309 166 [some (iq_r 0), some (iq_i v1), some (iq_i v2), some (iq_i v3), some (iq_l v4), none, some (iq_l (0 : Int64)), none, some (iq_i v2)] [] g l Q)) ∧
    (v6 < v1 → (iq_P N xs 309 84 [some (iq_r 0), some (iq_i v1), some (iq_i v2), some (iq_i v3), some (iq_l v4), none, some (iq_i v6), some (iq_i 12), none] [] g l Q))) :
    iq_P N xs 309 74 [some (iq_r 0), some (iq_i v1), some (iq_i v2), some (iq_i v3), some (iq_l v4), none, some (iq_i v6), d7, none] [] g l Q := iq_w_ok (cuts := [38, 74, 84, 166]) 7 74 _ _ _ _ H

-- ScaleForge.mistuned(II)Z at 84
set_option maxRecDepth 20000 in
theorem B309_p84_0 {N : Nat} {xs : Nat → Int32} {Q : iq_T} (v1 : Int) (v2 : Int) (v3 : Int) (v4 : Int64) (v6 : Int) (v7 : Int) (g : iq_I) (l : iq_J) (H : (-2147483648 ≤ v7 ∧ v7 ≤ 2147483647) ∧
    (v7 ≤ (0 : Int) → (iq_P N xs 309 74 [some (iq_r 0), some (iq_i v1), some (iq_i v2), some (iq_i v3), some (iq_l (v4 * (Int64.ofNat 16))), none, some (iq_i (v6 + 1)), some (iq_i v7), none] [] g (iq_uz l 39 0 ((l 39 0) * (iq_i2l (16 - v3)))) Q)) ∧
    ((0 : Int) < v7 → ((0 ≤ v7 ∧ v7 < 60) ∧ ((0 ≤ (v7 - 1) ∧ (v7 - 1) < 60) ∧ ((0 ≤ v7 ∧ v7 < 60) ∧ (iq_P N xs 309 84 [some (iq_r 0), some (iq_i v1), some (iq_i v2), some (iq_i v3), some (iq_l v4), none, some (iq_i v6), some (iq_i (v7 + (-1))), none] [] g (iq_uz l 39 v7 (((l 39 v7) * (iq_i2l (16 - v3))) + ((l 39 (v7 - 1)) * (iq_i2l v3)))) Q)))))) :
    iq_P N xs 309 84 [some (iq_r 0), some (iq_i v1), some (iq_i v2), some (iq_i v3), some (iq_l v4), none, some (iq_i v6), some (iq_i v7), none] [] g l Q := iq_w_ok (cuts := [38, 74, 84, 166]) 27 84 _ _ _ _ H

-- ScaleForge.mistuned(II)Z at 166
set_option maxRecDepth 20000 in
theorem B309_p166_0 {N : Nat} {xs : Nat → Int32} {Q : iq_T} (v1 : Int) (v2 : Int) (v3 : Int) (v4 : Int64) (v6 : Int64) (v8 : Int) (g : iq_I) (l : iq_J) (H : (-2147483648 ≤ v8 ∧ v8 ≤ 2147483647) ∧
    ((12 : Int) < v8 → (iq_P N xs 301 0 [some (iq_r 0), some (iq_l v6), none, some (iq_l v4), none, none, none] [] g l (fun r g1 l2 => ∃ z3, r = some (iq_i z3) ∧ ((z3 = 0 ∨ z3 = 1) ∧ Q (some (iq_i z3)) g1 l2)))) ∧
    (v8 ≤ (12 : Int) → ((0 ≤ v8 ∧ v8 < 60) ∧ (iq_P N xs 309 166 [some (iq_r 0), some (iq_i v1), some (iq_i v2), some (iq_i v3), some (iq_l v4), none, some (iq_l (v6 + (l 39 v8))), none, some (iq_i (v8 + 1))] [] g l Q)))) :
    iq_P N xs 309 166 [some (iq_r 0), some (iq_i v1), some (iq_i v2), some (iq_i v3), some (iq_l v4), none, some (iq_l v6), none, some (iq_i v8)] [] g l Q := iq_w_ok (cuts := [38, 74, 84, 166]) 12 166 _ _ _ _ H

-- ScaleForgeModel.mistuned(II)Z at 0
set_option maxRecDepth 20000 in
theorem B310_77 {N : Nat} {xs : Nat → Int32} {Q : iq_T} (a0 : Int) (a1 : Int) (g : iq_I) (l : iq_J) (H : iq_P N xs 149 0 [some (iq_l (iq_i2l a0)), none, some (iq_l (0 : Int64)), none, some (iq_l (Int64.ofNat 12)), none] [] g l (fun r g1 l2 => ∃ z3, r = some (iq_i z3) ∧ ((-2147483648 ≤ z3 ∧ z3 ≤ 2147483647) ∧
      (z3 = (0 : Int) → (iq_P N xs 33 0 [some (iq_r 77), some (iq_i 1)] [] g1 l2 (fun r g4 l5 => ∃ z6, r = some (iq_i z6) ∧ ((z6 = 0 ∨ z6 = 1) ∧ Q (some (iq_i z6)) g4 l5)))) ∧
      (¬ z3 = (0 : Int) → (iq_P N xs 149 0 [some (iq_l (iq_i2l a1)), none, some (iq_l (0 : Int64)), none, some (iq_l (Int64.ofNat 12)), none] [] g1 l2 (fun r g7 l8 => ∃ z9, r = some (iq_i z9) ∧ ((-2147483648 ≤ z9 ∧ z9 ≤ 2147483647) ∧
          (¬ z9 = (0 : Int) → (iq_P N xs 310 35 [some (iq_r 77), some (iq_i a0), some (iq_i a1), some (iq_l (1 : Int64)), none, some (iq_i 0), none, none] [] g7 l8 Q)) ∧
          (z9 = (0 : Int) → (iq_P N xs 33 0 [some (iq_r 77), some (iq_i 1)] [] g7 l8 (fun r g10 l11 => ∃ z12, r = some (iq_i z12) ∧ ((z12 = 0 ∨ z12 = 1) ∧ Q (some (iq_i z12)) g10 l11))))))))))) :
    iq_P N xs 310 0 [some (iq_r 77), some (iq_i a0), some (iq_i a1), none, none, none, none, none] [] g l Q := iq_w_ok (cuts := [35, 68, 78, 138, 159]) 16 0 _ _ _ _ H

-- ScaleForgeModel.mistuned(II)Z at 35
set_option maxRecDepth 20000 in
theorem B310_p35_77 {N : Nat} {xs : Nat → Int32} {Q : iq_T} (v1 : Int) (v2 : Int) (v3 : Int64) (v5 : Int) (g : iq_I) (l : iq_J) (H : (-2147483648 ≤ v5 ∧ v5 ≤ 2147483647) ∧
    ((13 : Int) ≤ v5 → (iq_P N xs 310 68 [some (iq_r 77), some (iq_i v1), some (iq_i v2), some (iq_l v3), none, some (iq_i 0), none, none] [] g l Q)) ∧
    (v5 < (13 : Int) → ((-2147483648 ≤ v5 ∧ v5 ≤ 2147483647) ∧
      (¬ v5 = (0 : Int) → ((0 ≤ v5 ∧ v5 < 13) ∧ (iq_P N xs 310 35 [some (iq_r 77), some (iq_i v1), some (iq_i v2), some (iq_l v3), none, some (iq_i (v5 + 1)), none, none] [] g (iq_uz l 99 v5 (0 : Int64)) Q))) ∧
      (v5 = (0 : Int) → ((0 ≤ v5 ∧ v5 < 13) ∧ (iq_P N xs 310 35 [some (iq_r 77), some (iq_i v1), some (iq_i v2), some (iq_l v3), none, some (iq_i (v5 + 1)), none, none] [] g (iq_uz l 99 v5 (1 : Int64)) Q)))))) :
    iq_P N xs 310 35 [some (iq_r 77), some (iq_i v1), some (iq_i v2), some (iq_l v3), none, some (iq_i v5), none, none] [] g l Q := iq_w_ok (cuts := [35, 68, 78, 138, 159]) 13 35 _ _ _ _ H

-- ScaleForgeModel.mistuned(II)Z at 68
set_option maxRecDepth 20000 in
theorem B310_p68_77 {N : Nat} {xs : Nat → Int32} {Q : iq_T} (v1 : Int) (v2 : Int) (v3 : Int64) (v5 : Int) (d6 : Option iq_V) (g : iq_I) (l : iq_J) (H : (-2147483648 ≤ v5 ∧ v5 ≤ 2147483647 ∧ -2147483648 ≤ v1 ∧ v1 ≤ 2147483647) ∧
    (v1 ≤ v5 → (iq_P N xs 310 159 [some (iq_r 77), some (iq_i v1), some (iq_i v2), some (iq_l v3), none, some (iq_l (0 : Int64)), none, some (iq_i v2)] [] g l Q)) ∧
    (v5 < v1 → (iq_P N xs 310 78 [some (iq_r 77), some (iq_i v1), some (iq_i v2), some (iq_l v3), none, some (iq_i v5), some (iq_i 12), none] [] g l Q))) :
    iq_P N xs 310 68 [some (iq_r 77), some (iq_i v1), some (iq_i v2), some (iq_l v3), none, some (iq_i v5), d6, none] [] g l Q := iq_w_ok (cuts := [35, 68, 78, 138, 159]) 7 68 _ _ _ _ H

-- ScaleForgeModel.mistuned(II)Z at 78
set_option maxRecDepth 20000 in
theorem B310_p78_77 {N : Nat} {xs : Nat → Int32} {Q : iq_T} (v1 : Int) (v2 : Int) (v3 : Int64) (v5 : Int) (v6 : Int) (g : iq_I) (l : iq_J) (H : (-2147483648 ≤ v6 ∧ v6 ≤ 2147483647) ∧
    (v6 < (0 : Int) → (iq_P N xs 310 68 [some (iq_r 77), some (iq_i v1), some (iq_i v2), some (iq_l (v3 * (Int64.ofNat 16))), none, some (iq_i (v5 + 1)), some (iq_i v6), none] [] g l Q)) ∧
    ((0 : Int) ≤ v6 → ((0 ≤ v6 ∧ v6 < 13) ∧ ((-2147483648 ≤ v6 ∧ v6 ≤ 2147483647) ∧
      (¬ v6 = (0 : Int) → ((0 ≤ (v6 - 1) ∧ (v6 - 1) < 13) ∧ ((0 ≤ v6 ∧ v6 < 13) ∧ (iq_P N xs 310 138 [some (iq_r 77), some (iq_i v1), some (iq_i v2), some (iq_l v3), none, some (iq_i v5), some (iq_i (v6 + (-1))), none] [] g (iq_uz l 99 v6 (((l 99 v6) * (iq_i2l (16 - (g 78 0)))) + ((l 99 (v6 - 1)) * (iq_i2l (g 78 0))))) Q)))) ∧
      (v6 = (0 : Int) → ((0 ≤ v6 ∧ v6 < 13) ∧ (iq_P N xs 310 138 [some (iq_r 77), some (iq_i v1), some (iq_i v2), some (iq_l v3), none, some (iq_i v5), some (iq_i (v6 + (-1))), none] [] g (iq_uz l 99 v6 (((l 99 v6) * (iq_i2l (16 - (g 78 0)))) + (0 : Int64))) Q))))))) :
    iq_P N xs 310 78 [some (iq_r 77), some (iq_i v1), some (iq_i v2), some (iq_l v3), none, some (iq_i v5), some (iq_i v6), none] [] g l Q := iq_w_ok (cuts := [35, 68, 78, 138, 159]) 34 78 _ _ _ _ H

-- ScaleForgeModel.mistuned(II)Z at 138
set_option maxRecDepth 20000 in
theorem B310_p138_77 {N : Nat} {xs : Nat → Int32} {Q : iq_T} (v1 : Int) (v2 : Int) (v3 : Int64) (v5 : Int) (v6 : Int) (g : iq_I) (l : iq_J) (H : iq_P N xs 310 78 [some (iq_r 77), some (iq_i v1), some (iq_i v2), some (iq_l v3), none, some (iq_i v5), some (iq_i v6), none] [] g l Q) :
    iq_P N xs 310 138 [some (iq_r 77), some (iq_i v1), some (iq_i v2), some (iq_l v3), none, some (iq_i v5), some (iq_i v6), none] [] g l Q := iq_w_ok (cuts := [35, 68, 78, 138, 159]) 1 138 _ _ _ _ H

-- ScaleForgeModel.mistuned(II)Z at 159
set_option maxRecDepth 20000 in
theorem B310_p159_77 {N : Nat} {xs : Nat → Int32} {Q : iq_T} (v1 : Int) (v2 : Int) (v3 : Int64) (v5 : Int64) (v7 : Int) (g : iq_I) (l : iq_J) (H : (-2147483648 ≤ v7 ∧ v7 ≤ 2147483647) ∧
    ((13 : Int) ≤ v7 → (iq_P N xs 303 0 [some (iq_r 77), some (iq_l v5), none, some (iq_l v3), none, none, none, none, none, none, none] [] g l (fun r g1 l2 => ∃ z3, r = some (iq_i z3) ∧ ((z3 = 0 ∨ z3 = 1) ∧ Q (some (iq_i z3)) g1 l2)))) ∧
    (v7 < (13 : Int) → ((0 ≤ v7 ∧ v7 < 13) ∧ (iq_P N xs 310 159 [some (iq_r 77), some (iq_i v1), some (iq_i v2), some (iq_l v3), none, some (iq_l (v5 + (l 99 v7))), none, some (iq_i (v7 + 1))] [] g l Q)))) :
    iq_P N xs 310 159 [some (iq_r 77), some (iq_i v1), some (iq_i v2), some (iq_l v3), none, some (iq_l v5), none, some (iq_i v7)] [] g l Q := iq_w_ok (cuts := [35, 68, 78, 138, 159]) 12 159 _ _ _ _ H

-- ScaleForge.runTrouble(LScaleForge$Tray;I)I at 0
set_option maxRecDepth 20000 in
theorem B311_2 {N : Nat} {xs : Nat → Int32} {Q : iq_T} (a0 : Int) (g : iq_I) (l : iq_J) (H : iq_P N xs 35 0 [some (iq_r 2)] [] g l (fun r g1 l2 => ∃ z3, r = some (iq_i z3) ∧ ((-2147483648 ≤ z3 ∧ z3 ≤ 2147483647) ∧
      (z3 = (0 : Int) → (iq_P N xs 48 0 [some (iq_r 2), some (iq_i 0), some (iq_i a0)] [] g1 l2 (fun r g4 l5 => ∃ z6, r = some (iq_i z6) ∧ ((-2147483648 ≤ z6 ∧ z6 ≤ 2147483647) ∧
          (z6 = (0 : Int) → (Q (some (iq_i 3)) g4 l5)) ∧
          (¬ z6 = (0 : Int) → (Q (some (iq_i 0)) g4 l5)))))) ∧
      (¬ z3 = (0 : Int) → (Q (some (iq_i 2)) g1 l2))))) :
    iq_P N xs 311 0 [some (iq_r 2), some (iq_i a0)] [] g l Q := iq_w_ok (cuts := []) 13 0 _ _ _ _ H

-- ScaleForge.runTrouble(LScaleForge$Tray;I)I at 0
set_option maxRecDepth 20000 in
theorem B311_4 {N : Nat} {xs : Nat → Int32} {Q : iq_T} (a0 : Int) (g : iq_I) (l : iq_J) (H : iq_P N xs 35 0 [some (iq_r 4)] [] g l (fun r g1 l2 => ∃ z3, r = some (iq_i z3) ∧ ((-2147483648 ≤ z3 ∧ z3 ≤ 2147483647) ∧
      (z3 = (0 : Int) → (iq_P N xs 48 0 [some (iq_r 4), some (iq_i 0), some (iq_i a0)] [] g1 l2 (fun r g4 l5 => ∃ z6, r = some (iq_i z6) ∧ ((-2147483648 ≤ z6 ∧ z6 ≤ 2147483647) ∧
          (z6 = (0 : Int) → (Q (some (iq_i 3)) g4 l5)) ∧
          (¬ z6 = (0 : Int) → (Q (some (iq_i 0)) g4 l5)))))) ∧
      (¬ z3 = (0 : Int) → (Q (some (iq_i 2)) g1 l2))))) :
    iq_P N xs 311 0 [some (iq_r 4), some (iq_i a0)] [] g l Q := iq_w_ok (cuts := []) 13 0 _ _ _ _ H

-- ScaleForge.runTrouble(LScaleForge$Tray;I)I at 0
set_option maxRecDepth 20000 in
theorem B311_6 {N : Nat} {xs : Nat → Int32} {Q : iq_T} (a0 : Int) (g : iq_I) (l : iq_J) (H : iq_P N xs 35 0 [some (iq_r 6)] [] g l (fun r g1 l2 => ∃ z3, r = some (iq_i z3) ∧ ((-2147483648 ≤ z3 ∧ z3 ≤ 2147483647) ∧
      (z3 = (0 : Int) → (iq_P N xs 48 0 [some (iq_r 6), some (iq_i 0), some (iq_i a0)] [] g1 l2 (fun r g4 l5 => ∃ z6, r = some (iq_i z6) ∧ ((-2147483648 ≤ z6 ∧ z6 ≤ 2147483647) ∧
          (z6 = (0 : Int) → (Q (some (iq_i 3)) g4 l5)) ∧
          (¬ z6 = (0 : Int) → (Q (some (iq_i 0)) g4 l5)))))) ∧
      (¬ z3 = (0 : Int) → (Q (some (iq_i 2)) g1 l2))))) :
    iq_P N xs 311 0 [some (iq_r 6), some (iq_i a0)] [] g l Q := iq_w_ok (cuts := []) 13 0 _ _ _ _ H

-- ScaleForge.runTrouble(LScaleForge$Tray;I)I at 0
set_option maxRecDepth 20000 in
theorem B311_8 {N : Nat} {xs : Nat → Int32} {Q : iq_T} (a0 : Int) (g : iq_I) (l : iq_J) (H : iq_P N xs 35 0 [some (iq_r 8)] [] g l (fun r g1 l2 => ∃ z3, r = some (iq_i z3) ∧ ((-2147483648 ≤ z3 ∧ z3 ≤ 2147483647) ∧
      (z3 = (0 : Int) → (iq_P N xs 48 0 [some (iq_r 8), some (iq_i 0), some (iq_i a0)] [] g1 l2 (fun r g4 l5 => ∃ z6, r = some (iq_i z6) ∧ ((-2147483648 ≤ z6 ∧ z6 ≤ 2147483647) ∧
          (z6 = (0 : Int) → (Q (some (iq_i 3)) g4 l5)) ∧
          (¬ z6 = (0 : Int) → (Q (some (iq_i 0)) g4 l5)))))) ∧
      (¬ z3 = (0 : Int) → (Q (some (iq_i 2)) g1 l2))))) :
    iq_P N xs 311 0 [some (iq_r 8), some (iq_i a0)] [] g l Q := iq_w_ok (cuts := []) 13 0 _ _ _ _ H

-- ScaleForge.runTrouble(LScaleForge$Tray;I)I at 0
set_option maxRecDepth 20000 in
theorem B311_null {N : Nat} {xs : Nat → Int32} {Q : iq_T} (a0 : Int) (g : iq_I) (l : iq_J) (H : Q (some (iq_i 1)) g l) :
    iq_P N xs 311 0 [some (iq_n), some (iq_i a0)] [] g l Q := iq_w_ok (cuts := []) 4 0 _ _ _ _ H

-- ScaleForge.copyScale(I)I at 0
set_option maxRecDepth 20000 in
theorem B312_0 {N : Nat} {xs : Nat → Int32} {Q : iq_T} (a0 : Int) (g : iq_I) (l : iq_J) (H : iq_P N xs 27 0 [some (iq_r 0), some (iq_i a0)] [] g l (fun r g1 l2 => iq_P N xs 312 5 [some (iq_r 0), some (iq_i a0), none, none, none, none, none] (r.toList ++ []) g1 l2 Q)) :
    iq_P N xs 312 0 [some (iq_r 0), some (iq_i a0), none, none, none, none, none] [] g l Q := iq_w_ok (cuts := [46]) 3 0 _ _ _ _ H

-- ScaleForge.copyScale(I)I at 5
set_option maxRecDepth 20000 in
theorem B312_q5_null {N : Nat} {xs : Nat → Int32} {Q : iq_T} (v1 : Int) (g : iq_I) (l : iq_J) (H : iq_P N xs 89 0 [some (iq_r 23)] [] g l (fun r g1 l2 => ∃ z3, r = some (iq_i z3) ∧ (iq_P N xs 311 0 [some (iq_n), some (iq_i z3)] [] g1 l2 (fun r g4 l5 => ∃ z6, r = some (iq_i z6) ∧ (iq_P N xs 44 0 [some (iq_r 0), some (iq_i z6)] [] g4 l5 (fun r g7 l8 => ∃ z9, r = some (iq_i z9) ∧ (Q (some (iq_i z9)) g7 l8))))))) :
    iq_P N xs 312 5 [some (iq_r 0), some (iq_i v1), none, none, none, none, none] [iq_n] g l Q := iq_w_ok (cuts := [46]) 15 5 _ _ _ _ H

-- ScaleForge.copyScale(I)I at 5
set_option maxRecDepth 20000 in
theorem B312_q5_2 {N : Nat} {xs : Nat → Int32} {Q : iq_T} (v1 : Int) (g : iq_I) (l : iq_J) (H : iq_P N xs 89 0 [some (iq_r 23)] [] g l (fun r g1 l2 => ∃ z3, r = some (iq_i z3) ∧ (iq_P N xs 311 0 [some (iq_r 2), some (iq_i z3)] [] g1 l2 (fun r g4 l5 => ∃ z6, r = some (iq_i z6) ∧ ((-2147483648 ≤ z6 ∧ z6 ≤ 2147483647) ∧
        (z6 = (0 : Int) → (iq_P N xs 137 0 [some (iq_r 0)] [] g4 l5 (fun r g7 l8 => iq_P N xs 312 41 [some (iq_r 0), some (iq_i v1), some (iq_r 2), some (iq_i z3), some (iq_i z6), none, none] (r.toList ++ []) g7 l8 Q))) ∧
        (¬ z6 = (0 : Int) → (iq_P N xs 44 0 [some (iq_r 0), some (iq_i z6)] [] g4 l5 (fun r g9 l10 => ∃ z11, r = some (iq_i z11) ∧ (Q (some (iq_i z11)) g9 l10))))))))) :
    iq_P N xs 312 5 [some (iq_r 0), some (iq_i v1), none, none, none, none, none] [iq_r 2] g l Q := iq_w_ok (cuts := [46]) 17 5 _ _ _ _ H
