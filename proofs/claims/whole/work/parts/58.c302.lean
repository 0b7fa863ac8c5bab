/-! Stretches of convergent. -/
-- ScaleForge.convergent(I)Z at 0
set_option maxRecDepth 20000 in
theorem B302_0 {N : Nat} {xs : Nat → Int32} {Q : iq_T} (a0 : Int) (g : iq_I) (l : iq_J) (H : (-2147483648 ≤ a0 ∧ a0 ≤ 2147483647) ∧
    ((0 : Int) ≤ a0 → (iq_P N xs 80 0 [some (iq_r 23)] [] g l (fun r g1 l2 => ∃ z3, r = some (iq_i z3) ∧ (iq_P N xs 302 19 [some (iq_r 0), some (iq_i a0), some (iq_i z3), none, none, none, none, none, none, none, none, none, none, none, none, none, none, none, none, none] [] g1 l2 Q)))) ∧
    (a0 < (0 : Int) → (iq_P N xs 28 0 [some (iq_r 0), some (iq_i 6)] [] g l (fun r g4 l5 => ∃ z6, r = some (iq_i z6) ∧ ((z6 = 0 ∨ z6 = 1) ∧ Q (some (iq_i z6)) g4 l5))))) :
    iq_P N xs 302 0 [some (iq_r 0), some (iq_i a0), none, none, none, none, none, none, none, none, none, none, none, none, none, none, none, none, none, none] [] g l Q := iq_w_ok (cuts := [19, 28, 37, 46, 57, 68, 84, 95, 107, 116, 125, 131, 142]) 6 0 _ _ _ _ H

-- ScaleForge.convergent(I)Z at 19
set_option maxRecDepth 20000 in
theorem B302_p19_0 {N : Nat} {xs : Nat → Int32} {Q : iq_T} (v1 : Int) (v2 : Int) (g : iq_I) (l : iq_J) (H : iq_P N xs 135 0 [some (iq_r 23), some (iq_i 2)] [] g l (fun r g1 l2 => ∃ z3, r = some (iq_i z3) ∧ (iq_P N xs 302 28 [some (iq_r 0), some (iq_i v1), some (iq_i v2), some (iq_i z3), none, none, none, none, none, none, none, none, none, none, none, none, none, none, none, none] [] g1 l2 Q))) :
    iq_P N xs 302 19 [some (iq_r 0), some (iq_i v1), some (iq_i v2), none, none, none, none, none, none, none, none, none, none, none, none, none, none, none, none, none] [] g l Q := iq_w_ok (cuts := [19, 28, 37, 46, 57, 68, 84, 95, 107, 116, 125, 131, 142]) 5 19 _ _ _ _ H

-- ScaleForge.convergent(I)Z at 28
set_option maxRecDepth 20000 in
theorem B302_p28_0 {N : Nat} {xs : Nat → Int32} {Q : iq_T} (v1 : Int) (v2 : Int) (v3 : Int) (g : iq_I) (l : iq_J) (H : iq_P N xs 302 37 [some (iq_r 0), some (iq_i v1), some (iq_i v2), some (iq_i v3), some (iq_l (0 : Int64)), none, some (iq_l (1 : Int64)), none, some (iq_l (1 : Int64)), none, none, none, none, none, none, none, none, none, none, none] [] g l Q) :
    iq_P N xs 302 28 [some (iq_r 0), some (iq_i v1), some (iq_i v2), some (iq_i v3), none, none, none, none, none, none, none, none, none, none, none, none, none, none, none, none] [] g l Q := iq_w_ok (cuts := [19, 28, 37, 46, 57, 68, 84, 95, 107, 116, 125, 131, 142]) 6 28 _ _ _ _ H

-- ScaleForge.convergent(I)Z at 37
set_option maxRecDepth 20000 in
theorem B302_p37_0 {N : Nat} {xs : Nat → Int32} {Q : iq_T} (v1 : Int) (v2 : Int) (v3 : Int) (v4 : Int64) (v6 : Int64) (v8 : Int64) (g : iq_I) (l : iq_J) (H : iq_P N xs 302 46 [some (iq_r 0), some (iq_i v1), some (iq_i v2), some (iq_i v3), some (iq_l v4), none, some (iq_l v6), none, some (iq_l v8), none, some (iq_l (0 : Int64)), none, some (iq_i 0), some (iq_i 0), none, none, none, none, none, none] [] g l Q) :
    iq_P N xs 302 37 [some (iq_r 0), some (iq_i v1), some (iq_i v2), some (iq_i v3), some (iq_l v4), none, some (iq_l v6), none, some (iq_l v8), none, none, none, none, none, none, none, none, none, none, none] [] g l Q := iq_w_ok (cuts := [19, 28, 37, 46, 57, 68, 84, 95, 107, 116, 125, 131, 142]) 6 37 _ _ _ _ H

-- ScaleForge.convergent(I)Z at 46
set_option maxRecDepth 20000 in
theorem B302_p46_0 {N : Nat} {xs : Nat → Int32} {Q : iq_T} (v1 : Int) (v2 : Int) (v3 : Int) (v4 : Int64) (v6 : Int64) (v8 : Int64) (v10 : Int64) (v12 : Int) (v13 : Int) (d14 : Option iq_V) (d15 : Option iq_V) (d16 : Option iq_V) (d18 : Option iq_V) (g : iq_I) (l : iq_J) (H : (-2147483648 ≤ v13 ∧ v13 ≤ 2147483647) ∧
    ((60 : Int) ≤ v13 → (iq_P N xs 302 125 [some (iq_r 0), some (iq_i v1), some (iq_i v2), some (iq_i v3), some (iq_l v4), none, some (iq_l v6), none, some (iq_l v8), none, some (iq_l v10), none, some (iq_i v12), some (iq_i v13), (iq_nv d14), (iq_nv d15), (iq_nv d16), none, (iq_nv d18), none] [] g l Q)) ∧
    (v13 < (60 : Int) → ((-2147483648 ≤ v3 ∧ v3 ≤ 2147483647) ∧
      (v3 ≤ (0 : Int) → (iq_P N xs 302 125 [some (iq_r 0), some (iq_i v1), some (iq_i v2), some (iq_i v3), some (iq_l v4), none, some (iq_l v6), none, some (iq_l v8), none, some (iq_l v10), none, some (iq_i v12), some (iq_i v13), (iq_nv d14), (iq_nv d15), (iq_nv d16), none, (iq_nv d18), none] [] g l Q)) ∧
      ((0 : Int) < v3 → (iq_P N xs 302 57 [some (iq_r 0), some (iq_i v1), some (iq_i v2), some (iq_i v3), some (iq_l v4), none, some (iq_l v6), none, some (iq_l v8), none, some (iq_l v10), none, some (iq_i v12), some (iq_i v13), (iq_nv d14), (iq_nv d15), (iq_nv d16), none, (iq_nv d18), none] [] g l Q))))) :
    iq_P N xs 302 46 [some (iq_r 0), some (iq_i v1), some (iq_i v2), some (iq_i v3), some (iq_l v4), none, some (iq_l v6), none, some (iq_l v8), none, some (iq_l v10), none, some (iq_i v12), some (iq_i v13), d14, d15, d16, none, d18, none] [] g l Q := iq_w_ok (cuts := [19, 28, 37, 46, 57, 68, 84, 95, 107, 116, 125, 131, 142]) 5 46 _ _ _ _ H

-- ScaleForge.convergent(I)Z at 57
set_option maxRecDepth 20000 in
theorem B302_p57_0 {N : Nat} {xs : Nat → Int32} {Q : iq_T} (v1 : Int) (v2 : Int) (v3 : Int) (v4 : Int64) (v6 : Int64) (v8 : Int64) (v10 : Int64) (v12 : Int) (v13 : Int) (d14 : Option iq_V) (d15 : Option iq_V) (d16 : Option iq_V) (d18 : Option iq_V) (g : iq_I) (l : iq_J) (H : (-2147483648 ≤ v12 ∧ v12 ≤ 2147483647 ∧ -2147483648 ≤ v1 ∧ v1 ≤ 2147483647) ∧
    (v1 ≤ v12 → (iq_P N xs 302 125 [some (iq_r 0), some (iq_i v1), some (iq_i v2), some (iq_i v3), some (iq_l v4), none, some (iq_l v6), none, some (iq_l v8), none, some (iq_l v10), none, some (iq_i v12), some (iq_i v13), (iq_nv d14), (iq_nv d15), (iq_nv d16), none, (iq_nv d18), none] [] g l Q)) ∧
    (v12 < v1 → ((-2147483648 < v2 ∧ v2 ≤ 2147483647 ∧ -2147483648 ≤ v3 ∧ v3 ≤ 2147483647 ∧ ¬ v3 = 0) ∧ (iq_P N xs 302 68 [some (iq_r 0), some (iq_i v1), some (iq_i v2), some (iq_i v3), some (iq_l v4), none, some (iq_l v6), none, some (iq_l v8), none, some (iq_l v10), none, some (iq_i v12), some (iq_i v13), some (iq_i (Int.tdiv v2 v3)), (iq_nv d15), (iq_nv d16), none, (iq_nv d18), none] [] g l Q)))) :
    iq_P N xs 302 57 [some (iq_r 0), some (iq_i v1), some (iq_i v2), some (iq_i v3), some (iq_l v4), none, some (iq_l v6), none, some (iq_l v8), none, some (iq_l v10), none, some (iq_i v12), some (iq_i v13), d14, d15, d16, none, d18, none] [] g l Q := iq_w_ok (cuts := [19, 28, 37, 46, 57, 68, 84, 95, 107, 116, 125, 131, 142]) 7 57 _ _ _ _ H

-- ScaleForge.convergent(I)Z at 68
set_option maxRecDepth 20000 in
theorem B302_p68_0 {N : Nat} {xs : Nat → Int32} {Q : iq_T} (v1 : Int) (v2 : Int) (v3 : Int) (v4 : Int64) (v6 : Int64) (v8 : Int64) (v10 : Int64) (v12 : Int) (v13 : Int) (v14 : Int) (d15 : Option iq_V) (d16 : Option iq_V) (d18 : Option iq_V) (g : iq_I) (l : iq_J) (H : (-2147483648 < v2 ∧ v2 ≤ 2147483647 ∧ -2147483648 ≤ v3 ∧ v3 ≤ 2147483647 ∧ ¬ v3 = 0) ∧ (iq_P N xs 302 84 [some (iq_r 0), some (iq_i v1), some (iq_i v2), some (iq_i v3), some (iq_l v4), none, some (iq_l v6), none, some (iq_l v8), none, some (iq_l v10), none, some (iq_i v12), some (iq_i v13), some (iq_i v14), some (iq_i (Int.tmod v2 v3)), some (iq_l (((iq_i2l v14) * v4) + v8)), none, (iq_nv d18), none] [] g l Q)) :
    iq_P N xs 302 68 [some (iq_r 0), some (iq_i v1), some (iq_i v2), some (iq_i v3), some (iq_l v4), none, some (iq_l v6), none, some (iq_l v8), none, some (iq_l v10), none, some (iq_i v12), some (iq_i v13), some (iq_i v14), d15, d16, none, d18, none] [] g l Q := iq_w_ok (cuts := [19, 28, 37, 46, 57, 68, 84, 95, 107, 116, 125, 131, 142]) 11 68 _ _ _ _ H

-- ScaleForge.convergent(I)Z at 84
set_option maxRecDepth 20000 in
theorem B302_p84_0 {N : Nat} {xs : Nat → Int32} {Q : iq_T} (v1 : Int) (v2 : Int) (v3 : Int) (v4 : Int64) (v6 : Int64) (v8 : Int64) (v10 : Int64) (v12 : Int) (v13 : Int) (v14 : Int) (v15 : Int) (v16 : Int64) (d18 : Option iq_V) (g : iq_I) (l : iq_J) (H : iq_P N xs 302 95 [some (iq_r 0), some (iq_i v1), some (iq_i v2), some (iq_i v3), some (iq_l v4), none, some (iq_l v6), none, some (iq_l v8), none, some (iq_l v10), none, some (iq_i v12), some (iq_i v13), some (iq_i v14), some (iq_i v15), some (iq_l v16), none, some (iq_l (((iq_i2l v14) * v6) + v10)), none] [] g l Q) :
    iq_P N xs 302 84 [some (iq_r 0), some (iq_i v1), some (iq_i v2), some (iq_i v3), some (iq_l v4), none, some (iq_l v6), none, some (iq_l v8), none, some (iq_l v10), none, some (iq_i v12), some (iq_i v13), some (iq_i v14), some (iq_i v15), some (iq_l v16), none, d18, none] [] g l Q := iq_w_ok (cuts := [19, 28, 37, 46, 57, 68, 84, 95, 107, 116, 125, 131, 142]) 7 84 _ _ _ _ H

-- ScaleForge.convergent(I)Z at 95
set_option maxRecDepth 20000 in
theorem B302_p95_0 {N : Nat} {xs : Nat → Int32} {Q : iq_T} (v1 : Int) (v2 : Int) (v3 : Int) (v4 : Int64) (v6 : Int64) (v8 : Int64) (v10 : Int64) (v12 : Int) (v13 : Int) (v14 : Int) (v15 : Int) (v16 : Int64) (v18 : Int64) (g : iq_I) (l : iq_J) (H : iq_P N xs 302 107 [some (iq_r 0), some (iq_i v1), some (iq_i v2), some (iq_i v3), some (iq_l v16), none, some (iq_l v6), none, some (iq_l v4), none, some (iq_l v6), none, some (iq_i v12), some (iq_i v13), some (iq_i v14), some (iq_i v15), some (iq_l v16), none, some (iq_l v18), none] [] g l Q) :
    iq_P N xs 302 95 [some (iq_r 0), some (iq_i v1), some (iq_i v2), some (iq_i v3), some (iq_l v4), none, some (iq_l v6), none, some (iq_l v8), none, some (iq_l v10), none, some (iq_i v12), some (iq_i v13), some (iq_i v14), some (iq_i v15), some (iq_l v16), none, some (iq_l v18), none] [] g l Q := iq_w_ok (cuts := [19, 28, 37, 46, 57, 68, 84, 95, 107, 116, 125, 131, 142]) 6 95 _ _ _ _ H

-- ScaleForge.convergent(I)Z at 107
set_option maxRecDepth 20000 in
theorem B302_p107_0 {N : Nat} {xs : Nat → Int32} {Q : iq_T} (v1 : Int) (v2 : Int) (v3 : Int) (v4 : Int64) (v6 : Int64) (v8 : Int64) (v10 : Int64) (v12 : Int) (v13 : Int) (v14 : Int) (v15 : Int) (v16 : Int64) (v18 : Int64) (g : iq_I) (l : iq_J) (H : iq_P N xs 302 116 [some (iq_r 0), some (iq_i v1), some (iq_i v3), some (iq_i v15), some (iq_l v4), none, some (iq_l v18), none, some (iq_l v8), none, some (iq_l v10), none, some (iq_i v12), some (iq_i v13), some (iq_i v14), some (iq_i v15), some (iq_l v16), none, some (iq_l v18), none] [] g l Q) :
    iq_P N xs 302 107 [some (iq_r 0), some (iq_i v1), some (iq_i v2), some (iq_i v3), some (iq_l v4), none, some (iq_l v6), none, some (iq_l v8), none, some (iq_l v10), none, some (iq_i v12), some (iq_i v13), some (iq_i v14), some (iq_i v15), some (iq_l v16), none, some (iq_l v18), none] [] g l Q := iq_w_ok (cuts := [19, 28, 37, 46, 57, 68, 84, 95, 107, 116, 125, 131, 142]) 6 107 _ _ _ _ H

-- ScaleForge.convergent(I)Z at 116
set_option maxRecDepth 20000 in
theorem B302_p116_0 {N : Nat} {xs : Nat → Int32} {Q : iq_T} (v1 : Int) (v2 : Int) (v3 : Int) (v4 : Int64) (v6 : Int64) (v8 : Int64) (v10 : Int64) (v12 : Int) (v13 : Int) (v14 : Int) (v15 : Int) (v16 : Int64) (v18 : Int64) (g : iq_I) (l : iq_J) (H : iq_P N xs 302 46 [some (iq_r 0), some (iq_i v1), some (iq_i v2), some (iq_i v3), some (iq_l v4), none, some (iq_l v6), none, some (iq_l v8), none, some (iq_l v10), none, some (iq_i (v12 + 1)), some (iq_i (v13 + 1)), some (iq_i v14), some (iq_i v15), some (iq_l v16), none, some (iq_l v18), none] [] g l Q) :
    iq_P N xs 302 116 [some (iq_r 0), some (iq_i v1), some (iq_i v2), some (iq_i v3), some (iq_l v4), none, some (iq_l v6), none, some (iq_l v8), none, some (iq_l v10), none, some (iq_i v12), some (iq_i v13), some (iq_i v14), some (iq_i v15), some (iq_l v16), none, some (iq_l v18), none] [] g l Q := iq_w_ok (cuts := [19, 28, 37, 46, 57, 68, 84, 95, 107, 116, 125, 131, 142]) 3 116 _ _ _ _ H

-- ScaleForge.convergent(I)Z at 125
set_option maxRecDepth 20000 in
theorem B302_p125_0 {N : Nat} {xs : Nat → Int32} {Q : iq_T} (v1 : Int) (v2 : Int) (v3 : Int) (v4 : Int64) (v6 : Int64) (v8 : Int64) (v10 : Int64) (v12 : Int) (v13 : Int) (d14 : Option iq_V) (d15 : Option iq_V) (d16 : Option iq_V) (d18 : Option iq_V) (g : iq_I) (l : iq_J) (H : (-2147483648 ≤ v12 ∧ v12 ≤ 2147483647 ∧ -2147483648 ≤ v1 ∧ v1 ≤ 2147483647) ∧
    (¬ v12 = v1 → (iq_P N xs 302 142 [some (iq_r 0), some (iq_i v1), some (iq_i v2), some (iq_i v3), some (iq_l v4), none, some (iq_l v6), none, some (iq_l v8), none, some (iq_l v10), none, some (iq_i v12), some (iq_i v13), (iq_nv d14), (iq_nv d15), (iq_nv d16), none, (iq_nv d18), none] [] g l Q)) ∧
    (v12 = v1 → (iq_P N xs 302 131 [some (iq_r 0), some (iq_i v1), some (iq_i v2), some (iq_i v3), some (iq_l v4), none, some (iq_l v6), none, some (iq_l v8), none, some (iq_l v10), none, some (iq_i v12), some (iq_i v13), (iq_nv d14), (iq_nv d15), (iq_nv d16), none, (iq_nv d18), none] [] g l Q))) :
    iq_P N xs 302 125 [some (iq_r 0), some (iq_i v1), some (iq_i v2), some (iq_i v3), some (iq_l v4), none, some (iq_l v6), none, some (iq_l v8), none, some (iq_l v10), none, some (iq_i v12), some (iq_i v13), d14, d15, d16, none, d18, none] [] g l Q := iq_w_ok (cuts := [19, 28, 37, 46, 57, 68, 84, 95, 107, 116, 125, 131, 142]) 3 125 _ _ _ _ H

-- ScaleForge.convergent(I)Z at 131
set_option maxRecDepth 20000 in
theorem B302_p131_0 {N : Nat} {xs : Nat → Int32} {Q : iq_T} (v1 : Int) (v2 : Int) (v3 : Int) (v4 : Int64) (v6 : Int64) (v8 : Int64) (v10 : Int64) (v12 : Int) (v13 : Int) (d14 : Option iq_V) (d15 : Option iq_V) (d16 : Option iq_V) (d18 : Option iq_V) (g : iq_I) (l : iq_J) (H : iq_P N xs 301 0 [some (iq_r 0), some (iq_l v4), none, some (iq_l v6), none, none, none] [] g l (fun r g1 l2 => ∃ z3, r = some (iq_i z3) ∧ ((z3 = 0 ∨ z3 = 1) ∧ Q (some (iq_i z3)) g1 l2))) :
    iq_P N xs 302 131 [some (iq_r 0), some (iq_i v1), some (iq_i v2), some (iq_i v3), some (iq_l v4), none, some (iq_l v6), none, some (iq_l v8), none, some (iq_l v10), none, some (iq_i v12), some (iq_i v13), d14, d15, d16, none, d18, none] [] g l Q := iq_w_ok (cuts := [19, 28, 37, 46, 57, 68, 84, 95, 107, 116, 125, 131, 142]) 6 131 _ _ _ _ H

-- ScaleForge.convergent(I)Z at 142
set_option maxRecDepth 20000 in
theorem B302_p142_0 {N : Nat} {xs : Nat → Int32} {Q : iq_T} (v1 : Int) (v2 : Int) (v3 : Int) (v4 : Int64) (v6 : Int64) (v8 : Int64) (v10 : Int64) (v12 : Int) (v13 : Int) (d14 : Option iq_V) (d15 : Option iq_V) (d16 : Option iq_V) (d18 : Option iq_V) (g : iq_I) (l : iq_J) (H : iq_P N xs 28 0 [some (iq_r 0), some (iq_i 6)] [] g l (fun r g1 l2 => ∃ z3, r = some (iq_i z3) ∧ ((z3 = 0 ∨ z3 = 1) ∧ Q (some (iq_i z3)) g1 l2))) :
    iq_P N xs 302 142 [some (iq_r 0), some (iq_i v1), some (iq_i v2), some (iq_i v3), some (iq_l v4), none, some (iq_l v6), none, some (iq_l v8), none, some (iq_l v10), none, some (iq_i v12), some (iq_i v13), d14, d15, d16, none, d18, none] [] g l Q := iq_w_ok (cuts := [19, 28, 37, 46, 57, 68, 84, 95, 107, 116, 125, 131, 142]) 4 142 _ _ _ _ H
