/-! Stretches of copyScale: the loop, for each tray. -/
-- ScaleForge.copyScale(I)I at 46
set_option maxRecDepth 20000 in
theorem B312_h46_2 {N : Nat} {xs : Nat → Int32} {Q : iq_T} (v1 : Int) (v3 : Int) (v4 : Int) (v6 : Int) (g : iq_I) (l : iq_J) (H : (-2147483648 ≤ v6 ∧ v6 ≤ 2147483647 ∧ -2147483648 ≤ v3 ∧ v3 ≤ 2147483647) ∧
    (v3 ≤ v6 → (iq_P N xs 90 0 [some (iq_r 0), some (iq_i v3)] [] g l (fun r g1 l2 => ∃ z3, r = some (iq_i z3) ∧ (Q (some (iq_i z3)) g1 l2)))) ∧
    (v6 < v3 → (iq_P N xs 138 0 [some (iq_r 31), some (iq_i v6)] [] g l (fun r g4 l5 => ∃ z6, r = some (iq_i z6) ∧ (iq_P N xs 39 0 [some (iq_r 2), some (iq_i v6), some (iq_l (iq_i2l z6)), none] [] g4 l5 (fun r g7 l8 => r = none ∧ (iq_P N xs 312 46 [some (iq_r 0), some (iq_i v1), some (iq_r 2), some (iq_i v3), some (iq_i v4), some (iq_r 31), some (iq_i (v6 + 1))] [] g7 l8 Q))))))) :
    iq_P N xs 312 46 [some (iq_r 0), some (iq_i v1), some (iq_r 2), some (iq_i v3), some (iq_i v4), some (iq_r 31), some (iq_i v6)] [] g l Q := iq_w_ok (cuts := [46]) 12 46 _ _ _ _ H

-- ScaleForge.copyScale(I)I at 46
set_option maxRecDepth 20000 in
theorem B312_h46_4 {N : Nat} {xs : Nat → Int32} {Q : iq_T} (v1 : Int) (v3 : Int) (v4 : Int) (v6 : Int) (g : iq_I) (l : iq_J) (H : (-2147483648 ≤ v6 ∧ v6 ≤ 2147483647 ∧ -2147483648 ≤ v3 ∧ v3 ≤ 2147483647) ∧
    (v3 ≤ v6 → (iq_P N xs 90 0 [some (iq_r 0), some (iq_i v3)] [] g l (fun r g1 l2 => ∃ z3, r = some (iq_i z3) ∧ (Q (some (iq_i z3)) g1 l2)))) ∧
    (v6 < v3 → (iq_P N xs 138 0 [some (iq_r 31), some (iq_i v6)] [] g l (fun r g4 l5 => ∃ z6, r = some (iq_i z6) ∧ (iq_P N xs 39 0 [some (iq_r 4), some (iq_i v6), some (iq_l (iq_i2l z6)), none] [] g4 l5 (fun r g7 l8 => r = none ∧ (iq_P N xs 312 46 [some (iq_r 0), some (iq_i v1), some (iq_r 4), some (iq_i v3), some (iq_i v4), some (iq_r 31), some (iq_i (v6 + 1))] [] g7 l8 Q))))))) :
    iq_P N xs 312 46 [some (iq_r 0), some (iq_i v1), some (iq_r 4), some (iq_i v3), some (iq_i v4), some (iq_r 31), some (iq_i v6)] [] g l Q := iq_w_ok (cuts := [46]) 12 46 _ _ _ _ H

-- ScaleForge.copyScale(I)I at 46
set_option maxRecDepth 20000 in
theorem B312_h46_6 {N : Nat} {xs : Nat → Int32} {Q : iq_T} (v1 : Int) (v3 : Int) (v4 : Int) (v6 : Int) (g : iq_I) (l : iq_J) (H : (-2147483648 ≤ v6 ∧ v6 ≤ 2147483647 ∧ -2147483648 ≤ v3 ∧ v3 ≤ 2147483647) ∧
    (v3 ≤ v6 → (iq_P N xs 90 0 [some (iq_r 0), some (iq_i v3)] [] g l (fun r g1 l2 => ∃ z3, r = some (iq_i z3) ∧ (Q (some (iq_i z3)) g1 l2)))) ∧
    (v6 < v3 → (iq_P N xs 138 0 [some (iq_r 31), some (iq_i v6)] [] g l (fun r g4 l5 => ∃ z6, r = some (iq_i z6) ∧ (iq_P N xs 39 0 [some (iq_r 6), some (iq_i v6), some (iq_l (iq_i2l z6)), none] [] g4 l5 (fun r g7 l8 => r = none ∧ (iq_P N xs 312 46 [some (iq_r 0), some (iq_i v1), some (iq_r 6), some (iq_i v3), some (iq_i v4), some (iq_r 31), some (iq_i (v6 + 1))] [] g7 l8 Q))))))) :
    iq_P N xs 312 46 [some (iq_r 0), some (iq_i v1), some (iq_r 6), some (iq_i v3), some (iq_i v4), some (iq_r 31), some (iq_i v6)] [] g l Q := iq_w_ok (cuts := [46]) 12 46 _ _ _ _ H

-- ScaleForge.copyScale(I)I at 46
set_option maxRecDepth 20000 in
theorem B312_h46_8 {N : Nat} {xs : Nat → Int32} {Q : iq_T} (v1 : Int) (v3 : Int) (v4 : Int) (v6 : Int) (g : iq_I) (l : iq_J) (H : (-2147483648 ≤ v6 ∧ v6 ≤ 2147483647 ∧ -2147483648 ≤ v3 ∧ v3 ≤ 2147483647) ∧
    (v3 ≤ v6 → (iq_P N xs 90 0 [some (iq_r 0), some (iq_i v3)] [] g l (fun r g1 l2 => ∃ z3, r = some (iq_i z3) ∧ (Q (some (iq_i z3)) g1 l2)))) ∧
    (v6 < v3 → (iq_P N xs 138 0 [some (iq_r 31), some (iq_i v6)] [] g l (fun r g4 l5 => ∃ z6, r = some (iq_i z6) ∧ (iq_P N xs 39 0 [some (iq_r 8), some (iq_i v6), some (iq_l (iq_i2l z6)), none] [] g4 l5 (fun r g7 l8 => r = none ∧ (iq_P N xs 312 46 [some (iq_r 0), some (iq_i v1), some (iq_r 8), some (iq_i v3), some (iq_i v4), some (iq_r 31), some (iq_i (v6 + 1))] [] g7 l8 Q))))))) :
    iq_P N xs 312 46 [some (iq_r 0), some (iq_i v1), some (iq_r 8), some (iq_i v3), some (iq_i v4), some (iq_r 31), some (iq_i v6)] [] g l Q := iq_w_ok (cuts := [46]) 12 46 _ _ _ _ H
