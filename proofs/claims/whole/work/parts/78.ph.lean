/-! Stretches of pour: the end, for each pair of trays. -/
-- ScaleForge.pour(IIIII)Z at 133
set_option maxRecDepth 20000 in
theorem B49_h133_2_2 {N : Nat} {xs : Nat → Int32} {Q : iq_T} (v1 : Int) (v2 : Int) (v3 : Int) (v4 : Int) (v5 : Int) (g : iq_I) (l : iq_J) (H : iq_P N xs 30 0 [some (iq_r 0)] [] g l (fun r g1 l2 => ∃ z3, r = some (iq_i z3) ∧ ((z3 = 0 ∨ z3 = 1) ∧ Q (some (iq_i z3)) g1 l2))) :
    iq_P N xs 49 133 [some (iq_r 0), some (iq_i v1), some (iq_i v2), some (iq_i v3), some (iq_i v4), some (iq_i v5), some (iq_r 2), some (iq_r 2)] [] g l Q := iq_w_ok (cuts := []) 3 133 _ _ _ _ H

-- ScaleForge.pour(IIIII)Z at 133
set_option maxRecDepth 20000 in
theorem B49_h133_2_4 {N : Nat} {xs : Nat → Int32} {Q : iq_T} (v1 : Int) (v2 : Int) (v3 : Int) (v4 : Int) (v5 : Int) (g : iq_I) (l : iq_J) (H : iq_P N xs 30 0 [some (iq_r 0)] [] g l (fun r g1 l2 => ∃ z3, r = some (iq_i z3) ∧ ((z3 = 0 ∨ z3 = 1) ∧ Q (some (iq_i z3)) g1 l2))) :
    iq_P N xs 49 133 [some (iq_r 0), some (iq_i v1), some (iq_i v2), some (iq_i v3), some (iq_i v4), some (iq_i v5), some (iq_r 2), some (iq_r 4)] [] g l Q := iq_w_ok (cuts := []) 3 133 _ _ _ _ H

-- ScaleForge.pour(IIIII)Z at 133
set_option maxRecDepth 20000 in
theorem B49_h133_2_6 {N : Nat} {xs : Nat → Int32} {Q : iq_T} (v1 : Int) (v2 : Int) (v3 : Int) (v4 : Int) (v5 : Int) (g : iq_I) (l : iq_J) (H : iq_P N xs 30 0 [some (iq_r 0)] [] g l (fun r g1 l2 => ∃ z3, r = some (iq_i z3) ∧ ((z3 = 0 ∨ z3 = 1) ∧ Q (some (iq_i z3)) g1 l2))) :
    iq_P N xs 49 133 [some (iq_r 0), some (iq_i v1), some (iq_i v2), some (iq_i v3), some (iq_i v4), some (iq_i v5), some (iq_r 2), some (iq_r 6)] [] g l Q := iq_w_ok (cuts := []) 3 133 _ _ _ _ H

-- ScaleForge.pour(IIIII)Z at 133
set_option maxRecDepth 20000 in
theorem B49_h133_2_8 {N : Nat} {xs : Nat → Int32} {Q : iq_T} (v1 : Int) (v2 : Int) (v3 : Int) (v4 : Int) (v5 : Int) (g : iq_I) (l : iq_J) (H : iq_P N xs 30 0 [some (iq_r 0)] [] g l (fun r g1 l2 => ∃ z3, r = some (iq_i z3) ∧ ((z3 = 0 ∨ z3 = 1) ∧ Q (some (iq_i z3)) g1 l2))) :
    iq_P N xs 49 133 [some (iq_r 0), some (iq_i v1), some (iq_i v2), some (iq_i v3), some (iq_i v4), some (iq_i v5), some (iq_r 2), some (iq_r 8)] [] g l Q := iq_w_ok (cuts := []) 3 133 _ _ _ _ H

-- ScaleForge.pour(IIIII)Z at 133
set_option maxRecDepth 20000 in
theorem B49_h133_4_2 {N : Nat} {xs : Nat → Int32} {Q : iq_T} (v1 : Int) (v2 : Int) (v3 : Int) (v4 : Int) (v5 : Int) (g : iq_I) (l : iq_J) (H : iq_P N xs 30 0 [some (iq_r 0)] [] g l (fun r g1 l2 => ∃ z3, r = some (iq_i z3) ∧ ((z3 = 0 ∨ z3 = 1) ∧ Q (some (iq_i z3)) g1 l2))) :
    iq_P N xs 49 133 [some (iq_r 0), some (iq_i v1), some (iq_i v2), some (iq_i v3), some (iq_i v4), some (iq_i v5), some (iq_r 4), some (iq_r 2)] [] g l Q := iq_w_ok (cuts := []) 3 133 _ _ _ _ H

-- ScaleForge.pour(IIIII)Z at 133
set_option maxRecDepth 20000 in
theorem B49_h133_4_4 {N : Nat} {xs : Nat → Int32} {Q : iq_T} (v1 : Int) (v2 : Int) (v3 : Int) (v4 : Int) (v5 : Int) (g : iq_I) (l : iq_J) (H : iq_P N xs 30 0 [some (iq_r 0)] [] g l (fun r g1 l2 => ∃ z3, r = some (iq_i z3) ∧ ((z3 = 0 ∨ z3 = 1) ∧ Q (some (iq_i z3)) g1 l2))) :
    iq_P N xs 49 133 [some (iq_r 0), some (iq_i v1), some (iq_i v2), some (iq_i v3), some (iq_i v4), some (iq_i v5), some (iq_r 4), some (iq_r 4)] [] g l Q := iq_w_ok (cuts := []) 3 133 _ _ _ _ H

-- ScaleForge.pour(IIIII)Z at 133
set_option maxRecDepth 20000 in
theorem B49_h133_4_6 {N : Nat} {xs : Nat → Int32} {Q : iq_T} (v1 : Int) (v2 : Int) (v3 : Int) (v4 : Int) (v5 : Int) (g : iq_I) (l : iq_J) (H : iq_P N xs 30 0 [some (iq_r 0)] [] g l (fun r g1 l2 => ∃ z3, r = some (iq_i z3) ∧ ((z3 = 0 ∨ z3 = 1) ∧ Q (some (iq_i z3)) g1 l2))) :
    iq_P N xs 49 133 [some (iq_r 0), some (iq_i v1), some (iq_i v2), some (iq_i v3), some (iq_i v4), some (iq_i v5), some (iq_r 4), some (iq_r 6)] [] g l Q := iq_w_ok (cuts := []) 3 133 _ _ _ _ H

-- ScaleForge.pour(IIIII)Z at 133
set_option maxRecDepth 20000 in
theorem B49_h133_4_8 {N : Nat} {xs : Nat → Int32} {Q : iq_T} (v1 : Int) (v2 : Int) (v3 : Int) (v4 : Int) (v5 : Int) (g : iq_I) (l : iq_J) (H : iq_P N xs 30 0 [some (iq_r 0)] [] g l (fun r g1 l2 => ∃ z3, r = some (iq_i z3) ∧ ((z3 = 0 ∨ z3 = 1) ∧ Q (some (iq_i z3)) g1 l2))) :
    iq_P N xs 49 133 [some (iq_r 0), some (iq_i v1), some (iq_i v2), some (iq_i v3), some (iq_i v4), some (iq_i v5), some (iq_r 4), some (iq_r 8)] [] g l Q := iq_w_ok (cuts := []) 3 133 _ _ _ _ H

-- ScaleForge.pour(IIIII)Z at 133
set_option maxRecDepth 20000 in
theorem B49_h133_6_2 {N : Nat} {xs : Nat → Int32} {Q : iq_T} (v1 : Int) (v2 : Int) (v3 : Int) (v4 : Int) (v5 : Int) (g : iq_I) (l : iq_J) (H : iq_P N xs 30 0 [some (iq_r 0)] [] g l (fun r g1 l2 => ∃ z3, r = some (iq_i z3) ∧ ((z3 = 0 ∨ z3 = 1) ∧ Q (some (iq_i z3)) g1 l2))) :
    iq_P N xs 49 133 [some (iq_r 0), some (iq_i v1), some (iq_i v2), some (iq_i v3), some (iq_i v4), some (iq_i v5), some (iq_r 6), some (iq_r 2)] [] g l Q := iq_w_ok (cuts := []) 3 133 _ _ _ _ H

-- ScaleForge.pour(IIIII)Z at 133
set_option maxRecDepth 20000 in
theorem B49_h133_6_4 {N : Nat} {xs : Nat → Int32} {Q : iq_T} (v1 : Int) (v2 : Int) (v3 : Int) (v4 : Int) (v5 : Int) (g : iq_I) (l : iq_J) (H : iq_P N xs 30 0 [some (iq_r 0)] [] g l (fun r g1 l2 => ∃ z3, r = some (iq_i z3) ∧ ((z3 = 0 ∨ z3 = 1) ∧ Q (some (iq_i z3)) g1 l2))) :
    iq_P N xs 49 133 [some (iq_r 0), some (iq_i v1), some (iq_i v2), some (iq_i v3), some (iq_i v4), some (iq_i v5), some (iq_r 6), some (iq_r 4)] [] g l Q := iq_w_ok (cuts := []) 3 133 _ _ _ _ H

-- ScaleForge.pour(IIIII)Z at 133
set_option maxRecDepth 20000 in
theorem B49_h133_6_6 {N : Nat} {xs : Nat → Int32} {Q : iq_T} (v1 : Int) (v2 : Int) (v3 : Int) (v4 : Int) (v5 : Int) (g : iq_I) (l : iq_J) (H : iq_P N xs 30 0 [some (iq_r 0)] [] g l (fun r g1 l2 => ∃ z3, r = some (iq_i z3) ∧ ((z3 = 0 ∨ z3 = 1) ∧ Q (some (iq_i z3)) g1 l2))) :
    iq_P N xs 49 133 [some (iq_r 0), some (iq_i v1), some (iq_i v2), some (iq_i v3), some (iq_i v4), some (iq_i v5), some (iq_r 6), some (iq_r 6)] [] g l Q := iq_w_ok (cuts := []) 3 133 _ _ _ _ H

-- ScaleForge.pour(IIIII)Z at 133
set_option maxRecDepth 20000 in
theorem B49_h133_6_8 {N : Nat} {xs : Nat → Int32} {Q : iq_T} (v1 : Int) (v2 : Int) (v3 : Int) (v4 : Int) (v5 : Int) (g : iq_I) (l : iq_J) (H : iq_P N xs 30 0 [some (iq_r 0)] [] g l (fun r g1 l2 => ∃ z3, r = some (iq_i z3) ∧ ((z3 = 0 ∨ z3 = 1) ∧ Q (some (iq_i z3)) g1 l2))) :
    iq_P N xs 49 133 [some (iq_r 0), some (iq_i v1), some (iq_i v2), some (iq_i v3), some (iq_i v4), some (iq_i v5), some (iq_r 6), some (iq_r 8)] [] g l Q := iq_w_ok (cuts := []) 3 133 _ _ _ _ H

-- ScaleForge.pour(IIIII)Z at 133
set_option maxRecDepth 20000 in
theorem B49_h133_8_2 {N : Nat} {xs : Nat → Int32} {Q : iq_T} (v1 : Int) (v2 : Int) (v3 : Int) (v4 : Int) (v5 : Int) (g : iq_I) (l : iq_J) (H : iq_P N xs 30 0 [some (iq_r 0)] [] g l (fun r g1 l2 => ∃ z3, r = some (iq_i z3) ∧ ((z3 = 0 ∨ z3 = 1) ∧ Q (some (iq_i z3)) g1 l2))) :
    iq_P N xs 49 133 [some (iq_r 0), some (iq_i v1), some (iq_i v2), some (iq_i v3), some (iq_i v4), some (iq_i v5), some (iq_r 8), some (iq_r 2)] [] g l Q := iq_w_ok (cuts := []) 3 133 _ _ _ _ H

-- ScaleForge.pour(IIIII)Z at 133
set_option maxRecDepth 20000 in
theorem B49_h133_8_4 {N : Nat} {xs : Nat → Int32} {Q : iq_T} (v1 : Int) (v2 : Int) (v3 : Int) (v4 : Int) (v5 : Int) (g : iq_I) (l : iq_J) (H : iq_P N xs 30 0 [some (iq_r 0)] [] g l (fun r g1 l2 => ∃ z3, r = some (iq_i z3) ∧ ((z3 = 0 ∨ z3 = 1) ∧ Q (some (iq_i z3)) g1 l2))) :
    iq_P N xs 49 133 [some (iq_r 0), some (iq_i v1), some (iq_i v2), some (iq_i v3), some (iq_i v4), some (iq_i v5), some (iq_r 8), some (iq_r 4)] [] g l Q := iq_w_ok (cuts := []) 3 133 _ _ _ _ H

-- ScaleForge.pour(IIIII)Z at 133
set_option maxRecDepth 20000 in
theorem B49_h133_8_6 {N : Nat} {xs : Nat → Int32} {Q : iq_T} (v1 : Int) (v2 : Int) (v3 : Int) (v4 : Int) (v5 : Int) (g : iq_I) (l : iq_J) (H : iq_P N xs 30 0 [some (iq_r 0)] [] g l (fun r g1 l2 => ∃ z3, r = some (iq_i z3) ∧ ((z3 = 0 ∨ z3 = 1) ∧ Q (some (iq_i z3)) g1 l2))) :
    iq_P N xs 49 133 [some (iq_r 0), some (iq_i v1), some (iq_i v2), some (iq_i v3), some (iq_i v4), some (iq_i v5), some (iq_r 8), some (iq_r 6)] [] g l Q := iq_w_ok (cuts := []) 3 133 _ _ _ _ H

-- ScaleForge.pour(IIIII)Z at 133
set_option maxRecDepth 20000 in
theorem B49_h133_8_8 {N : Nat} {xs : Nat → Int32} {Q : iq_T} (v1 : Int) (v2 : Int) (v3 : Int) (v4 : Int) (v5 : Int) (g : iq_I) (l : iq_J) (H : iq_P N xs 30 0 [some (iq_r 0)] [] g l (fun r g1 l2 => ∃ z3, r = some (iq_i z3) ∧ ((z3 = 0 ∨ z3 = 1) ∧ Q (some (iq_i z3)) g1 l2))) :
    iq_P N xs 49 133 [some (iq_r 0), some (iq_i v1), some (iq_i v2), some (iq_i v3), some (iq_i v4), some (iq_i v5), some (iq_r 8), some (iq_r 8)] [] g l Q := iq_w_ok (cuts := []) 3 133 _ _ _ _ H
