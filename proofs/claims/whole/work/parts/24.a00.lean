/-! What must hold that a stretch of a method ends well: methods 2 to 81. -/
-- ScaleForge$Scale.clear()V at 0
set_option maxRecDepth 20000 in
theorem B2_13 {N : Nat} {xs : Nat → Int32} {Q : iq_T} (g : iq_I) (l : iq_J) (H : (0 ≤ (0 : Int) ∧ 0 ≤ (0 : Int) ∧ 0 ≤ (9 : Int) ∧ (0 : Int) + 9 ≤ 9 ∧ (0 : Int) + 9 ≤ 9 ∧ (0 : Int) ≤ 65536) ∧ (Q (none) (iq_uz (iq_rz g 14 (iq_cz (fun k => ((ij_sa.getD 0 []).getD (Int.toNat k) 0).toInt) (g 14) 0 0 9)) 13 2 0) (iq_uz l 13 3 (0 : Int64)))) :
    iq_P N xs 2 0 [some (iq_r 13)] [] g l Q := iq_w_ok (cuts := []) 14 0 _ _ _ _ H

-- ScaleForge.isBoundByPeriod(I)Z at 0
set_option maxRecDepth 20000 in
theorem B3 {N : Nat} {xs : Nat → Int32} {Q : iq_T} (a0 : Int) (g : iq_I) (l : iq_J) (H : (-2147483648 ≤ a0 ∧ a0 ≤ 2147483647) ∧
    (a0 = (2 : Int) → (Q (some (iq_i 1)) g l)) ∧
    (¬ a0 = (2 : Int) → ((-2147483648 ≤ a0 ∧ a0 ≤ 2147483647) ∧
      (a0 = (5 : Int) → (Q (some (iq_i 1)) g l)) ∧
      (¬ a0 = (5 : Int) → ((-2147483648 ≤ a0 ∧ a0 ≤ 2147483647) ∧
        (a0 = (7 : Int) → (Q (some (iq_i 1)) g l)) ∧
        (¬ a0 = (7 : Int) → ((-2147483648 ≤ a0 ∧ a0 ≤ 2147483647) ∧
          (¬ a0 = (8 : Int) → (Q (some (iq_i 0)) g l)) ∧
          (a0 = (8 : Int) → (Q (some (iq_i 1)) g l))))))))) :
    iq_P N xs 3 0 [some (iq_i a0)] [] g l Q := iq_w_ok (cuts := []) 15 0 _ _ _ _ H

-- java/lang/Math.floorMod(II)I at 0
set_option maxRecDepth 20000 in
theorem B4 {N : Nat} {xs : Nat → Int32} {Q : iq_T} (a0 : Int) (a1 : Int) (g : iq_I) (l : iq_J) (H : (-2147483648 < a0 ∧ a0 ≤ 2147483647 ∧ -2147483648 ≤ a1 ∧ a1 ≤ 2147483647 ∧ ¬ a1 = 0) ∧ ((-2147483648 ≤ (iq_xor a0 a1) ∧ (iq_xor a0 a1) ≤ 2147483647) ∧
    ((0 : Int) ≤ (iq_xor a0 a1) → (Q (some (iq_i (Int.tmod a0 a1))) g l)) ∧
    ((iq_xor a0 a1) < (0 : Int) → ((-2147483648 ≤ (Int.tmod a0 a1) ∧ (Int.tmod a0 a1) ≤ 2147483647) ∧
      ((Int.tmod a0 a1) = (0 : Int) → (Q (some (iq_i (Int.tmod a0 a1))) g l)) ∧
      (¬ (Int.tmod a0 a1) = (0 : Int) → (Q (some (iq_i ((Int.tmod a0 a1) + a1))) g l)))))) :
    iq_P N xs 4 0 [some (iq_i a0), some (iq_i a1), none] [] g l Q := iq_w_ok (cuts := []) 14 0 _ _ _ _ H

-- ScaleForge$Scale.folded(I)I at 0
set_option maxRecDepth 20000 in
theorem B5_13 {N : Nat} {xs : Nat → Int32} {Q : iq_T} (a0 : Int) (g : iq_I) (l : iq_J) (H : (-2147483648 ≤ (g 14 1) ∧ (g 14 1) ≤ 2147483647) ∧
    ((g 14 1) ≤ (0 : Int) → (Q (some (iq_i 0)) g l)) ∧
    ((0 : Int) < (g 14 1) → (iq_P N xs 4 0 [some (iq_i a0), some (iq_i (g 14 1)), none] [] g l (fun r g1 l2 => ∃ z3, r = some (iq_i z3) ∧ (Q (some (iq_i z3)) g1 l2))))) :
    iq_P N xs 5 0 [some (iq_r 13), some (iq_i a0), none] [] g l Q := iq_w_ok (cuts := []) 12 0 _ _ _ _ H

-- ScaleForge$Scale.folded(I)I at 0
set_option maxRecDepth 20000 in
theorem B5_23 {N : Nat} {xs : Nat → Int32} {Q : iq_T} (a0 : Int) (g : iq_I) (l : iq_J) (H : (-2147483648 ≤ (g 24 1) ∧ (g 24 1) ≤ 2147483647) ∧
    ((g 24 1) ≤ (0 : Int) → (Q (some (iq_i 0)) g l)) ∧
    ((0 : Int) < (g 24 1) → (iq_P N xs 4 0 [some (iq_i a0), some (iq_i (g 24 1)), none] [] g l (fun r g1 l2 => ∃ z3, r = some (iq_i z3) ∧ (Q (some (iq_i z3)) g1 l2))))) :
    iq_P N xs 5 0 [some (iq_r 23), some (iq_i a0), none] [] g l Q := iq_w_ok (cuts := []) 12 0 _ _ _ _ H

-- ScaleForge$Scale.folded(I)I at 0
set_option maxRecDepth 20000 in
theorem B5_44 {N : Nat} {xs : Nat → Int32} {Q : iq_T} (a0 : Int) (g : iq_I) (l : iq_J) (H : (-2147483648 ≤ (g 45 1) ∧ (g 45 1) ≤ 2147483647) ∧
    ((g 45 1) ≤ (0 : Int) → (Q (some (iq_i 0)) g l)) ∧
    ((0 : Int) < (g 45 1) → (iq_P N xs 4 0 [some (iq_i a0), some (iq_i (g 45 1)), none] [] g l (fun r g1 l2 => ∃ z3, r = some (iq_i z3) ∧ (Q (some (iq_i z3)) g1 l2))))) :
    iq_P N xs 5 0 [some (iq_r 44), some (iq_i a0), none] [] g l Q := iq_w_ok (cuts := []) 12 0 _ _ _ _ H

-- ScaleForge$Bits.of(I)J at 0
set_option maxRecDepth 20000 in
theorem B6 {N : Nat} {xs : Nat → Int32} {Q : iq_T} (a0 : Int) (g : iq_I) (l : iq_J) (H : (-2147483648 ≤ a0 ∧ a0 ≤ 2147483647) ∧
    (a0 < (0 : Int) → (Q (some (iq_l (0 : Int64))) g l)) ∧
    ((0 : Int) ≤ a0 → ((-2147483648 ≤ a0 ∧ a0 ≤ 2147483647) ∧
      ((64 : Int) ≤ a0 → (Q (some (iq_l (0 : Int64))) g l)) ∧
      (a0 < (64 : Int) → (Q (some (iq_l (iq_lsl (1 : Int64) a0))) g l))))) :
    iq_P N xs 6 0 [some (iq_i a0)] [] g l Q := iq_w_ok (cuts := []) 10 0 _ _ _ _ H

-- ScaleForge$Bits.below(I)J at 0
set_option maxRecDepth 20000 in
theorem B7 {N : Nat} {xs : Nat → Int32} {Q : iq_T} (a0 : Int) (g : iq_I) (l : iq_J) (H : iq_P N xs 6 0 [some (iq_i a0)] [] g l (fun r g1 l2 => ∃ x3, r = some (iq_l x3) ∧ (Q (some (iq_l (x3 - (1 : Int64)))) g1 l2))) :
    iq_P N xs 7 0 [some (iq_i a0)] [] g l Q := iq_w_ok (cuts := []) 5 0 _ _ _ _ H

-- ScaleForge$Scale.stacked(III)J at 0
set_option maxRecDepth 20000 in
theorem B8_13 {N : Nat} {xs : Nat → Int32} {Q : iq_T} (a0 : Int) (a1 : Int) (a2 : Int) (g : iq_I) (l : iq_J) (H : iq_P N xs 5 0 [some (iq_r 13), some (iq_i (a1 - ((g 14 4) * a0))), none] [] g l (fun r g1 l2 => ∃ z3, r = some (iq_i z3) ∧ (iq_P N xs 8 22 [some (iq_r 13), some (iq_i a0), some (iq_i a1), some (iq_i a2), some (iq_l (0 : Int64)), none, some (iq_i z3), some (iq_i 0)] [] g1 l2 Q))) :
    iq_P N xs 8 0 [some (iq_r 13), some (iq_i a0), some (iq_i a1), some (iq_i a2), none, none, none, none] [] g l Q := iq_w_ok (cuts := [22]) 15 0 _ _ _ _ H

-- ScaleForge$Scale.stacked(III)J at 22
set_option maxRecDepth 20000 in
theorem B8_p22_13 {N : Nat} {xs : Nat → Int32} {Q : iq_T} (v1 : Int) (v2 : Int) (v3 : Int) (v4 : Int64) (v6 : Int) (v7 : Int) (g : iq_I) (l : iq_J) (H : (-2147483648 ≤ v7 ∧ v7 ≤ 2147483647 ∧ -2147483648 ≤ v3 ∧ v3 ≤ 2147483647) ∧
    (v3 ≤ v7 → (Q (some (iq_l v4)) g l)) ∧
    (v7 < v3 → (iq_P N xs 6 0 [some (iq_i v6)] [] g l (fun r g1 l2 => ∃ x3, r = some (iq_l x3) ∧ ((-2147483648 ≤ (v6 + v1) ∧ (v6 + v1) ≤ 2147483647 ∧ -2147483648 ≤ (g1 14 1) ∧ (g1 14 1) ≤ 2147483647) ∧
        ((v6 + v1) < (g1 14 1) → (iq_P N xs 8 22 [some (iq_r 13), some (iq_i v1), some (iq_i v2), some (iq_i v3), some (iq_l (v4 ||| x3)), none, some (iq_i ((v6 + v1) - 0)), some (iq_i (v7 + 1))] [] g1 l2 Q)) ∧
        ((g1 14 1) ≤ (v6 + v1) → (iq_P N xs 8 22 [some (iq_r 13), some (iq_i v1), some (iq_i v2), some (iq_i v3), some (iq_l (v4 ||| x3)), none, some (iq_i ((v6 + v1) - (g1 14 1))), some (iq_i (v7 + 1))] [] g1 l2 Q))))))) :
    iq_P N xs 8 22 [some (iq_r 13), some (iq_i v1), some (iq_i v2), some (iq_i v3), some (iq_l v4), none, some (iq_i v6), some (iq_i v7)] [] g l Q := iq_w_ok (cuts := [22]) 28 22 _ _ _ _ H

-- ScaleForge$Scale.stacked(III)J at 0
set_option maxRecDepth 20000 in
theorem B8_23 {N : Nat} {xs : Nat → Int32} {Q : iq_T} (a0 : Int) (a1 : Int) (a2 : Int) (g : iq_I) (l : iq_J) (H : iq_P N xs 5 0 [some (iq_r 23), some (iq_i (a1 - ((g 24 4) * a0))), none] [] g l (fun r g1 l2 => ∃ z3, r = some (iq_i z3) ∧ (iq_P N xs 8 22 [some (iq_r 23), some (iq_i a0), some (iq_i a1), some (iq_i a2), some (iq_l (0 : Int64)), none, some (iq_i z3), some (iq_i 0)] [] g1 l2 Q))) :
    iq_P N xs 8 0 [some (iq_r 23), some (iq_i a0), some (iq_i a1), some (iq_i a2), none, none, none, none] [] g l Q := iq_w_ok (cuts := [22]) 15 0 _ _ _ _ H

-- ScaleForge$Scale.stacked(III)J at 22
set_option maxRecDepth 20000 in
theorem B8_p22_23 {N : Nat} {xs : Nat → Int32} {Q : iq_T} (v1 : Int) (v2 : Int) (v3 : Int) (v4 : Int64) (v6 : Int) (v7 : Int) (g : iq_I) (l : iq_J) (H : (-2147483648 ≤ v7 ∧ v7 ≤ 2147483647 ∧ -2147483648 ≤ v3 ∧ v3 ≤ 2147483647) ∧
    (v3 ≤ v7 → (Q (some (iq_l v4)) g l)) ∧
    (v7 < v3 → (iq_P N xs 6 0 [some (iq_i v6)] [] g l (fun r g1 l2 => ∃ x3, r = some (iq_l x3) ∧ ((-2147483648 ≤ (v6 + v1) ∧ (v6 + v1) ≤ 2147483647 ∧ -2147483648 ≤ (g1 24 1) ∧ (g1 24 1) ≤ 2147483647) ∧
        ((v6 + v1) < (g1 24 1) → (iq_P N xs 8 22 [some (iq_r 23), some (iq_i v1), some (iq_i v2), some (iq_i v3), some (iq_l (v4 ||| x3)), none, some (iq_i ((v6 + v1) - 0)), some (iq_i (v7 + 1))] [] g1 l2 Q)) ∧
        ((g1 24 1) ≤ (v6 + v1) → (iq_P N xs 8 22 [some (iq_r 23), some (iq_i v1), some (iq_i v2), some (iq_i v3), some (iq_l (v4 ||| x3)), none, some (iq_i ((v6 + v1) - (g1 24 1))), some (iq_i (v7 + 1))] [] g1 l2 Q))))))) :
    iq_P N xs 8 22 [some (iq_r 23), some (iq_i v1), some (iq_i v2), some (iq_i v3), some (iq_l v4), none, some (iq_i v6), some (iq_i v7)] [] g l Q := iq_w_ok (cuts := [22]) 28 22 _ _ _ _ H

-- ScaleForge$Scale.stacked(III)J at 0
set_option maxRecDepth 20000 in
theorem B8_44 {N : Nat} {xs : Nat → Int32} {Q : iq_T} (a0 : Int) (a1 : Int) (a2 : Int) (g : iq_I) (l : iq_J) (H : iq_P N xs 5 0 [some (iq_r 44), some (iq_i (a1 - ((g 45 4) * a0))), none] [] g l (fun r g1 l2 => ∃ z3, r = some (iq_i z3) ∧ (iq_P N xs 8 22 [some (iq_r 44), some (iq_i a0), some (iq_i a1), some (iq_i a2), some (iq_l (0 : Int64)), none, some (iq_i z3), some (iq_i 0)] [] g1 l2 Q))) :
    iq_P N xs 8 0 [some (iq_r 44), some (iq_i a0), some (iq_i a1), some (iq_i a2), none, none, none, none] [] g l Q := iq_w_ok (cuts := [22]) 15 0 _ _ _ _ H

-- ScaleForge$Scale.stacked(III)J at 22
set_option maxRecDepth 20000 in
theorem B8_p22_44 {N : Nat} {xs : Nat → Int32} {Q : iq_T} (v1 : Int) (v2 : Int) (v3 : Int) (v4 : Int64) (v6 : Int) (v7 : Int) (g : iq_I) (l : iq_J) (H : (-2147483648 ≤ v7 ∧ v7 ≤ 2147483647 ∧ -2147483648 ≤ v3 ∧ v3 ≤ 2147483647) ∧
    (v3 ≤ v7 → (Q (some (iq_l v4)) g l)) ∧
    (v7 < v3 → (iq_P N xs 6 0 [some (iq_i v6)] [] g l (fun r g1 l2 => ∃ x3, r = some (iq_l x3) ∧ ((-2147483648 ≤ (v6 + v1) ∧ (v6 + v1) ≤ 2147483647 ∧ -2147483648 ≤ (g1 45 1) ∧ (g1 45 1) ≤ 2147483647) ∧
        ((v6 + v1) < (g1 45 1) → (iq_P N xs 8 22 [some (iq_r 44), some (iq_i v1), some (iq_i v2), some (iq_i v3), some (iq_l (v4 ||| x3)), none, some (iq_i ((v6 + v1) - 0)), some (iq_i (v7 + 1))] [] g1 l2 Q)) ∧
        ((g1 45 1) ≤ (v6 + v1) → (iq_P N xs 8 22 [some (iq_r 44), some (iq_i v1), some (iq_i v2), some (iq_i v3), some (iq_l (v4 ||| x3)), none, some (iq_i ((v6 + v1) - (g1 45 1))), some (iq_i (v7 + 1))] [] g1 l2 Q))))))) :
    iq_P N xs 8 22 [some (iq_r 44), some (iq_i v1), some (iq_i v2), some (iq_i v3), some (iq_l v4), none, some (iq_i v6), some (iq_i v7)] [] g l Q := iq_w_ok (cuts := [22]) 28 22 _ _ _ _ H

-- ScaleForge$Scale.settle()V at 0
set_option maxRecDepth 20000 in
theorem B9_13 {N : Nat} {xs : Nat → Int32} {Q : iq_T} (g : iq_I) (l : iq_J) (H : iq_P N xs 9 2 [some (iq_r 13), some (iq_i 0)] [] g l Q) :
    iq_P N xs 9 0 [some (iq_r 13), none] [] g l Q := iq_w_ok (cuts := [2]) 2 0 _ _ _ _ H

-- ScaleForge$Scale.settle()V at 2
set_option maxRecDepth 20000 in
theorem B9_p2_13 {N : Nat} {xs : Nat → Int32} {Q : iq_T} (v1 : Int) (g : iq_I) (l : iq_J) (H : (-2147483648 ≤ v1 ∧ v1 ≤ 2147483647) ∧
    ((9 : Int) ≤ v1 → (iq_P N xs 7 0 [some (iq_i (g 14 1))] [] g l (fun r g1 l2 => ∃ x3, r = some (iq_l x3) ∧ (iq_P N xs 8 0 [some (iq_r 13), some (iq_i (g1 14 2)), some (iq_i (g1 14 5)), some (iq_i (g1 14 3)), none, none, none, none] [] g1 (iq_uz l2 13 3 ((l 13 3) &&& x3)) (fun r g4 l5 => ∃ x6, r = some (iq_l x6) ∧ (Q (none) g4 (iq_uz l5 13 4 x6))))))) ∧
    (v1 < (9 : Int) → (iq_P N xs 3 0 [some (iq_i v1)] [] g l (fun r g7 l8 => ∃ z9, r = some (iq_i z9) ∧ ((-2147483648 ≤ z9 ∧ z9 ≤ 2147483647) ∧
        (z9 = (0 : Int) → (iq_P N xs 9 2 [some (iq_r 13), some (iq_i (v1 + 1))] [] g7 l8 Q)) ∧
        (¬ z9 = (0 : Int) → ((0 ≤ v1 ∧ v1 < 9) ∧ (iq_P N xs 5 0 [some (iq_r 13), some (iq_i (g7 14 v1)), none] [] g7 l8 (fun r g10 l11 => ∃ z12, r = some (iq_i z12) ∧ ((0 ≤ v1 ∧ v1 < 9) ∧ (iq_P N xs 9 2 [some (iq_r 13), some (iq_i (v1 + 1))] [] (iq_uz g10 14 v1 z12) l11 Q))))))))))) :
    iq_P N xs 9 2 [some (iq_r 13), some (iq_i v1)] [] g l Q := iq_w_ok (cuts := [2]) 30 2 _ _ _ _ H

-- ScaleForge$Scale.settle()V at 0
set_option maxRecDepth 20000 in
theorem B9_23 {N : Nat} {xs : Nat → Int32} {Q : iq_T} (g : iq_I) (l : iq_J) (H : iq_P N xs 9 2 [some (iq_r 23), some (iq_i 0)] [] g l Q) :
    iq_P N xs 9 0 [some (iq_r 23), none] [] g l Q := iq_w_ok (cuts := [2]) 2 0 _ _ _ _ H

-- ScaleForge$Scale.settle()V at 2
set_option maxRecDepth 20000 in
theorem B9_p2_23 {N : Nat} {xs : Nat → Int32} {Q : iq_T} (v1 : Int) (g : iq_I) (l : iq_J) (H : (-2147483648 ≤ v1 ∧ v1 ≤ 2147483647) ∧
    ((9 : Int) ≤ v1 → (iq_P N xs 7 0 [some (iq_i (g 24 1))] [] g l (fun r g1 l2 => ∃ x3, r = some (iq_l x3) ∧ (iq_P N xs 8 0 [some (iq_r 23), some (iq_i (g1 24 2)), some (iq_i (g1 24 5)), some (iq_i (g1 24 3)), none, none, none, none] [] g1 (iq_uz l2 23 3 ((l 23 3) &&& x3)) (fun r g4 l5 => ∃ x6, r = some (iq_l x6) ∧ (Q (none) g4 (iq_uz l5 23 4 x6))))))) ∧
    (v1 < (9 : Int) → (iq_P N xs 3 0 [some (iq_i v1)] [] g l (fun r g7 l8 => ∃ z9, r = some (iq_i z9) ∧ ((-2147483648 ≤ z9 ∧ z9 ≤ 2147483647) ∧
        (z9 = (0 : Int) → (iq_P N xs 9 2 [some (iq_r 23), some (iq_i (v1 + 1))] [] g7 l8 Q)) ∧
        (¬ z9 = (0 : Int) → ((0 ≤ v1 ∧ v1 < 9) ∧ (iq_P N xs 5 0 [some (iq_r 23), some (iq_i (g7 24 v1)), none] [] g7 l8 (fun r g10 l11 => ∃ z12, r = some (iq_i z12) ∧ ((0 ≤ v1 ∧ v1 < 9) ∧ (iq_P N xs 9 2 [some (iq_r 23), some (iq_i (v1 + 1))] [] (iq_uz g10 24 v1 z12) l11 Q))))))))))) :
    iq_P N xs 9 2 [some (iq_r 23), some (iq_i v1)] [] g l Q := iq_w_ok (cuts := [2]) 30 2 _ _ _ _ H

-- ScaleForgeModel.plain(I)V at 0
set_option maxRecDepth 20000 in
theorem B19_77 {N : Nat} {xs : Nat → Int32} {Q : iq_T} (a0 : Int) (g : iq_I) (l : iq_J) (H : iq_P N xs 19 2 [some (iq_r 77), some (iq_i a0), some (iq_i 0)] [] g l Q) :
    iq_P N xs 19 0 [some (iq_r 77), some (iq_i a0), none] [] g l Q := iq_w_ok (cuts := [2]) 2 0 _ _ _ _ H

-- ScaleForgeModel.plain(I)V at 2
set_option maxRecDepth 20000 in
theorem B19_p2_77 {N : Nat} {xs : Nat → Int32} {Q : iq_T} (v1 : Int) (v2 : Int) (g : iq_I) (l : iq_J) (H : (-2147483648 ≤ v2 ∧ v2 ≤ 2147483647) ∧
    ((460 : Int) ≤ v2 → ((0 ≤ (v1 + 0) ∧ (v1 + 0) < 2392) ∧ ((0 ≤ (v1 + 1) ∧ (v1 + 1) < 2392) ∧ ((0 ≤ (v1 + 2) ∧ (v1 + 2) < 2392) ∧ ((0 ≤ (v1 + 3) ∧ (v1 + 3) < 2392) ∧ ((0 ≤ (v1 + 6) ∧ (v1 + 6) < 2392) ∧ ((0 ≤ (v1 + 7) ∧ (v1 + 7) < 2392) ∧ ((0 ≤ (v1 + 8) ∧ (v1 + 8) < 2392) ∧ ((0 ≤ (v1 + 10) ∧ (v1 + 10) < 2392) ∧ (Q (none) (iq_uz (iq_uz (iq_uz (iq_uz (iq_uz (iq_uz (iq_uz (iq_uz g 78 (v1 + 0) 4) 78 (v1 + 1) 12) 78 (v1 + 2) 7) 78 (v1 + 3) 7) 78 (v1 + 6) 7) 78 (v1 + 7) 2) 78 (v1 + 8) 1) 78 (v1 + 10) (-1)) l)))))))))) ∧
    (v2 < (460 : Int) → ((0 ≤ (v1 + v2) ∧ (v1 + v2) < 2392) ∧ (iq_P N xs 19 2 [some (iq_r 77), some (iq_i v1), some (iq_i (v2 + 1))] [] (iq_uz g 78 (v1 + v2) 0) l Q)))) :
    iq_P N xs 19 2 [some (iq_r 77), some (iq_i v1), some (iq_i v2)] [] g l Q := iq_w_ok (cuts := [2]) 60 2 _ _ _ _ H

-- ScaleForge.status()I at 0
set_option maxRecDepth 20000 in
theorem B21_0 {N : Nat} {xs : Nat → Int32} {Q : iq_T} (g : iq_I) (l : iq_J) (H : Q (some (iq_i (g 0 0))) g l) :
    iq_P N xs 21 0 [some (iq_r 0)] [] g l Q := iq_w_ok (cuts := []) 3 0 _ _ _ _ H

-- ScaleForgeModel.status()I at 0
set_option maxRecDepth 20000 in
theorem B22_77 {N : Nat} {xs : Nat → Int32} {Q : iq_T} (g : iq_I) (l : iq_J) (H : Q (some (iq_i (g 77 1))) g l) :
    iq_P N xs 22 0 [some (iq_r 77)] [] g l Q := iq_w_ok (cuts := []) 3 0 _ _ _ _ H

-- ScaleForge.top()J at 0
set_option maxRecDepth 20000 in
theorem B23_0 {N : Nat} {xs : Nat → Int32} {Q : iq_T} (g : iq_I) (l : iq_J) (H : Q (some (iq_l (l 0 1))) g l) :
    iq_P N xs 23 0 [some (iq_r 0)] [] g l Q := iq_w_ok (cuts := []) 3 0 _ _ _ _ H

-- ScaleForgeModel.top()J at 0
set_option maxRecDepth 20000 in
theorem B24_77 {N : Nat} {xs : Nat → Int32} {Q : iq_T} (g : iq_I) (l : iq_J) (H : Q (some (iq_l (l 77 2))) g l) :
    iq_P N xs 24 0 [some (iq_r 77)] [] g l Q := iq_w_ok (cuts := []) 3 0 _ _ _ _ H

-- ScaleForge.bottom()J at 0
set_option maxRecDepth 20000 in
theorem B25_0 {N : Nat} {xs : Nat → Int32} {Q : iq_T} (g : iq_I) (l : iq_J) (H : Q (some (iq_l (l 0 2))) g l) :
    iq_P N xs 25 0 [some (iq_r 0)] [] g l Q := iq_w_ok (cuts := []) 3 0 _ _ _ _ H

-- ScaleForgeModel.bottom()J at 0
set_option maxRecDepth 20000 in
theorem B26_77 {N : Nat} {xs : Nat → Int32} {Q : iq_T} (g : iq_I) (l : iq_J) (H : Q (some (iq_l (l 77 3))) g l) :
    iq_P N xs 26 0 [some (iq_r 77)] [] g l Q := iq_w_ok (cuts := []) 3 0 _ _ _ _ H

-- ScaleForge.refuse(I)Z at 0
set_option maxRecDepth 20000 in
theorem B28_0 {N : Nat} {xs : Nat → Int32} {Q : iq_T} (a0 : Int) (g : iq_I) (l : iq_J) (H : Q (some (iq_i 0)) (iq_uz g 0 0 a0) l) :
    iq_P N xs 28 0 [some (iq_r 0), some (iq_i a0)] [] g l Q := iq_w_ok (cuts := []) 5 0 _ _ _ _ H

-- ScaleForge$Tray.empty(II)V at 0
set_option maxRecDepth 20000 in
theorem B29_2 {N : Nat} {xs : Nat → Int32} {Q : iq_T} (a0 : Int) (a1 : Int) (g : iq_I) (l : iq_J) (H : iq_P N xs 29 12 [some (iq_r 2), some (iq_i a0), some (iq_i a1), some (iq_i 0)] [] (iq_uz (iq_uz g 2 1 a0) 2 2 a1) l Q) :
    iq_P N xs 29 0 [some (iq_r 2), some (iq_i a0), some (iq_i a1), none] [] g l Q := iq_w_ok (cuts := [12]) 8 0 _ _ _ _ H

-- ScaleForge$Tray.empty(II)V at 12
set_option maxRecDepth 20000 in
theorem B29_p12_2 {N : Nat} {xs : Nat → Int32} {Q : iq_T} (v1 : Int) (v2 : Int) (v3 : Int) (g : iq_I) (l : iq_J) (H : (-2147483648 ≤ v3 ∧ v3 ≤ 2147483647) ∧
    ((60 : Int) ≤ v3 → (Q (none) g l)) ∧
    (v3 < (60 : Int) → ((0 ≤ v3 ∧ v3 < 60) ∧ (iq_P N xs 29 12 [some (iq_r 2), some (iq_i v1), some (iq_i v2), some (iq_i (v3 + 1))] [] g (iq_uz l 3 v3 (0 : Int64)) Q)))) :
    iq_P N xs 29 12 [some (iq_r 2), some (iq_i v1), some (iq_i v2), some (iq_i v3)] [] g l Q := iq_w_ok (cuts := [12]) 12 12 _ _ _ _ H

-- ScaleForge$Tray.empty(II)V at 0
set_option maxRecDepth 20000 in
theorem B29_4 {N : Nat} {xs : Nat → Int32} {Q : iq_T} (a0 : Int) (a1 : Int) (g : iq_I) (l : iq_J) (H : iq_P N xs 29 12 [some (iq_r 4), some (iq_i a0), some (iq_i a1), some (iq_i 0)] [] (iq_uz (iq_uz g 4 1 a0) 4 2 a1) l Q) :
    iq_P N xs 29 0 [some (iq_r 4), some (iq_i a0), some (iq_i a1), none] [] g l Q := iq_w_ok (cuts := [12]) 8 0 _ _ _ _ H

-- ScaleForge$Tray.empty(II)V at 12
set_option maxRecDepth 20000 in
theorem B29_p12_4 {N : Nat} {xs : Nat → Int32} {Q : iq_T} (v1 : Int) (v2 : Int) (v3 : Int) (g : iq_I) (l : iq_J) (H : (-2147483648 ≤ v3 ∧ v3 ≤ 2147483647) ∧
    ((60 : Int) ≤ v3 → (Q (none) g l)) ∧
    (v3 < (60 : Int) → ((0 ≤ v3 ∧ v3 < 60) ∧ (iq_P N xs 29 12 [some (iq_r 4), some (iq_i v1), some (iq_i v2), some (iq_i (v3 + 1))] [] g (iq_uz l 5 v3 (0 : Int64)) Q)))) :
    iq_P N xs 29 12 [some (iq_r 4), some (iq_i v1), some (iq_i v2), some (iq_i v3)] [] g l Q := iq_w_ok (cuts := [12]) 12 12 _ _ _ _ H

-- ScaleForge$Tray.empty(II)V at 0
set_option maxRecDepth 20000 in
theorem B29_6 {N : Nat} {xs : Nat → Int32} {Q : iq_T} (a0 : Int) (a1 : Int) (g : iq_I) (l : iq_J) (H : iq_P N xs 29 12 [some (iq_r 6), some (iq_i a0), some (iq_i a1), some (iq_i 0)] [] (iq_uz (iq_uz g 6 1 a0) 6 2 a1) l Q) :
    iq_P N xs 29 0 [some (iq_r 6), some (iq_i a0), some (iq_i a1), none] [] g l Q := iq_w_ok (cuts := [12]) 8 0 _ _ _ _ H

-- ScaleForge$Tray.empty(II)V at 12
set_option maxRecDepth 20000 in
theorem B29_p12_6 {N : Nat} {xs : Nat → Int32} {Q : iq_T} (v1 : Int) (v2 : Int) (v3 : Int) (g : iq_I) (l : iq_J) (H : (-2147483648 ≤ v3 ∧ v3 ≤ 2147483647) ∧
    ((60 : Int) ≤ v3 → (Q (none) g l)) ∧
    (v3 < (60 : Int) → ((0 ≤ v3 ∧ v3 < 60) ∧ (iq_P N xs 29 12 [some (iq_r 6), some (iq_i v1), some (iq_i v2), some (iq_i (v3 + 1))] [] g (iq_uz l 7 v3 (0 : Int64)) Q)))) :
    iq_P N xs 29 12 [some (iq_r 6), some (iq_i v1), some (iq_i v2), some (iq_i v3)] [] g l Q := iq_w_ok (cuts := [12]) 12 12 _ _ _ _ H

-- ScaleForge$Tray.empty(II)V at 0
set_option maxRecDepth 20000 in
theorem B29_8 {N : Nat} {xs : Nat → Int32} {Q : iq_T} (a0 : Int) (a1 : Int) (g : iq_I) (l : iq_J) (H : iq_P N xs 29 12 [some (iq_r 8), some (iq_i a0), some (iq_i a1), some (iq_i 0)] [] (iq_uz (iq_uz g 8 1 a0) 8 2 a1) l Q) :
    iq_P N xs 29 0 [some (iq_r 8), some (iq_i a0), some (iq_i a1), none] [] g l Q := iq_w_ok (cuts := [12]) 8 0 _ _ _ _ H

-- ScaleForge$Tray.empty(II)V at 12
set_option maxRecDepth 20000 in
theorem B29_p12_8 {N : Nat} {xs : Nat → Int32} {Q : iq_T} (v1 : Int) (v2 : Int) (v3 : Int) (g : iq_I) (l : iq_J) (H : (-2147483648 ≤ v3 ∧ v3 ≤ 2147483647) ∧
    ((60 : Int) ≤ v3 → (Q (none) g l)) ∧
    (v3 < (60 : Int) → ((0 ≤ v3 ∧ v3 < 60) ∧ (iq_P N xs 29 12 [some (iq_r 8), some (iq_i v1), some (iq_i v2), some (iq_i (v3 + 1))] [] g (iq_uz l 9 v3 (0 : Int64)) Q)))) :
    iq_P N xs 29 12 [some (iq_r 8), some (iq_i v1), some (iq_i v2), some (iq_i v3)] [] g l Q := iq_w_ok (cuts := [12]) 12 12 _ _ _ _ H

-- ScaleForge.grant()Z at 0
set_option maxRecDepth 20000 in
theorem B30_0 {N : Nat} {xs : Nat → Int32} {Q : iq_T} (g : iq_I) (l : iq_J) (H : Q (some (iq_i 1)) (iq_uz g 0 0 0) l) :
    iq_P N xs 30 0 [some (iq_r 0)] [] g l Q := iq_w_ok (cuts := []) 5 0 _ _ _ _ H

-- ScaleForge.tray(III)Z at 0
set_option maxRecDepth 20000 in
theorem B31_0 {N : Nat} {xs : Nat → Int32} {Q : iq_T} (a0 : Int) (a1 : Int) (a2 : Int) (g : iq_I) (l : iq_J) (H : iq_P N xs 27 0 [some (iq_r 0), some (iq_i a0)] [] g l (fun r g1 l2 => iq_P N xs 31 5 [some (iq_r 0), some (iq_i a0), some (iq_i a1), some (iq_i a2), none] (r.toList ++ []) g1 l2 Q)) :
    iq_P N xs 31 0 [some (iq_r 0), some (iq_i a0), some (iq_i a1), some (iq_i a2), none] [] g l Q := iq_w_ok (cuts := []) 3 0 _ _ _ _ H

-- ScaleForge.tray(III)Z at 5
set_option maxRecDepth 20000 in
theorem B31_q5_null {N : Nat} {xs : Nat → Int32} {Q : iq_T} (v1 : Int) (v2 : Int) (v3 : Int) (g : iq_I) (l : iq_J) (H : iq_P N xs 28 0 [some (iq_r 0), some (iq_i 1)] [] g l (fun r g1 l2 => ∃ z3, r = some (iq_i z3) ∧ ((z3 = 0 ∨ z3 = 1) ∧ Q (some (iq_i z3)) g1 l2))) :
    iq_P N xs 31 5 [some (iq_r 0), some (iq_i v1), some (iq_i v2), some (iq_i v3), none] [iq_n] g l Q := iq_w_ok (cuts := []) 7 5 _ _ _ _ H

-- ScaleForge.tray(III)Z at 5
set_option maxRecDepth 20000 in
theorem B31_q5_2 {N : Nat} {xs : Nat → Int32} {Q : iq_T} (v1 : Int) (v2 : Int) (v3 : Int) (g : iq_I) (l : iq_J) (H : (-2147483648 ≤ v2 ∧ v2 ≤ 2147483647) ∧
    (v2 < (0 : Int) → (iq_P N xs 28 0 [some (iq_r 0), some (iq_i 1)] [] g l (fun r g1 l2 => ∃ z3, r = some (iq_i z3) ∧ ((z3 = 0 ∨ z3 = 1) ∧ Q (some (iq_i z3)) g1 l2)))) ∧
    ((0 : Int) ≤ v2 → ((-2147483648 ≤ v2 ∧ v2 ≤ 2147483647) ∧
      ((3 : Int) < v2 → (iq_P N xs 28 0 [some (iq_r 0), some (iq_i 1)] [] g l (fun r g4 l5 => ∃ z6, r = some (iq_i z6) ∧ ((z6 = 0 ∨ z6 = 1) ∧ Q (some (iq_i z6)) g4 l5)))) ∧
      (v2 ≤ (3 : Int) → ((-2147483648 ≤ v3 ∧ v3 ≤ 2147483647) ∧
        (v3 < (0 : Int) → (iq_P N xs 28 0 [some (iq_r 0), some (iq_i 1)] [] g l (fun r g7 l8 => ∃ z9, r = some (iq_i z9) ∧ ((z9 = 0 ∨ z9 = 1) ∧ Q (some (iq_i z9)) g7 l8)))) ∧
        ((0 : Int) ≤ v3 → ((-2147483648 ≤ v3 ∧ v3 ≤ 2147483647) ∧
          (v3 ≤ (60 : Int) → (iq_P N xs 29 0 [some (iq_r 2), some (iq_i v2), some (iq_i v3), none] [] g l (fun r g10 l11 => r = none ∧ (iq_P N xs 30 0 [some (iq_r 0)] [] g10 l11 (fun r g12 l13 => ∃ z14, r = some (iq_i z14) ∧ ((z14 = 0 ∨ z14 = 1) ∧ Q (some (iq_i z14)) g12 l13)))))) ∧
          ((60 : Int) < v3 → (iq_P N xs 28 0 [some (iq_r 0), some (iq_i 1)] [] g l (fun r g15 l16 => ∃ z17, r = some (iq_i z17) ∧ ((z17 = 0 ∨ z17 = 1) ∧ Q (some (iq_i z17)) g15 l16))))))))))) :
    iq_P N xs 31 5 [some (iq_r 0), some (iq_i v1), some (iq_i v2), some (iq_i v3), none] [iq_r 2] g l Q := iq_w_ok (cuts := []) 20 5 _ _ _ _ H

-- ScaleForge.tray(III)Z at 5
set_option maxRecDepth 20000 in
theorem B31_q5_4 {N : Nat} {xs : Nat → Int32} {Q : iq_T} (v1 : Int) (v2 : Int) (v3 : Int) (g : iq_I) (l : iq_J) (H : (-2147483648 ≤ v2 ∧ v2 ≤ 2147483647) ∧
    (v2 < (0 : Int) → (iq_P N xs 28 0 [some (iq_r 0), some (iq_i 1)] [] g l (fun r g1 l2 => ∃ z3, r = some (iq_i z3) ∧ ((z3 = 0 ∨ z3 = 1) ∧ Q (some (iq_i z3)) g1 l2)))) ∧
    ((0 : Int) ≤ v2 → ((-2147483648 ≤ v2 ∧ v2 ≤ 2147483647) ∧
      ((3 : Int) < v2 → (iq_P N xs 28 0 [some (iq_r 0), some (iq_i 1)] [] g l (fun r g4 l5 => ∃ z6, r = some (iq_i z6) ∧ ((z6 = 0 ∨ z6 = 1) ∧ Q (some (iq_i z6)) g4 l5)))) ∧
      (v2 ≤ (3 : Int) → ((-2147483648 ≤ v3 ∧ v3 ≤ 2147483647) ∧
        (v3 < (0 : Int) → (iq_P N xs 28 0 [some (iq_r 0), some (iq_i 1)] [] g l (fun r g7 l8 => ∃ z9, r = some (iq_i z9) ∧ ((z9 = 0 ∨ z9 = 1) ∧ Q (some (iq_i z9)) g7 l8)))) ∧
        ((0 : Int) ≤ v3 → ((-2147483648 ≤ v3 ∧ v3 ≤ 2147483647) ∧
          (v3 ≤ (60 : Int) → (iq_P N xs 29 0 [some (iq_r 4), some (iq_i v2), some (iq_i v3), none] [] g l (fun r g10 l11 => r = none ∧ (iq_P N xs 30 0 [some (iq_r 0)] [] g10 l11 (fun r g12 l13 => ∃ z14, r = some (iq_i z14) ∧ ((z14 = 0 ∨ z14 = 1) ∧ Q (some (iq_i z14)) g12 l13)))))) ∧
          ((60 : Int) < v3 → (iq_P N xs 28 0 [some (iq_r 0), some (iq_i 1)] [] g l (fun r g15 l16 => ∃ z17, r = some (iq_i z17) ∧ ((z17 = 0 ∨ z17 = 1) ∧ Q (some (iq_i z17)) g15 l16))))))))))) :
    iq_P N xs 31 5 [some (iq_r 0), some (iq_i v1), some (iq_i v2), some (iq_i v3), none] [iq_r 4] g l Q := iq_w_ok (cuts := []) 20 5 _ _ _ _ H

-- ScaleForge.tray(III)Z at 5
set_option maxRecDepth 20000 in
theorem B31_q5_6 {N : Nat} {xs : Nat → Int32} {Q : iq_T} (v1 : Int) (v2 : Int) (v3 : Int) (g : iq_I) (l : iq_J) (H : (-2147483648 ≤ v2 ∧ v2 ≤ 2147483647) ∧
    (v2 < (0 : Int) → (iq_P N xs 28 0 [some (iq_r 0), some (iq_i 1)] [] g l (fun r g1 l2 => ∃ z3, r = some (iq_i z3) ∧ ((z3 = 0 ∨ z3 = 1) ∧ Q (some (iq_i z3)) g1 l2)))) ∧
    ((0 : Int) ≤ v2 → ((-2147483648 ≤ v2 ∧ v2 ≤ 2147483647) ∧
      ((3 : Int) < v2 → (iq_P N xs 28 0 [some (iq_r 0), some (iq_i 1)] [] g l (fun r g4 l5 => ∃ z6, r = some (iq_i z6) ∧ ((z6 = 0 ∨ z6 = 1) ∧ Q (some (iq_i z6)) g4 l5)))) ∧
      (v2 ≤ (3 : Int) → ((-2147483648 ≤ v3 ∧ v3 ≤ 2147483647) ∧
        (v3 < (0 : Int) → (iq_P N xs 28 0 [some (iq_r 0), some (iq_i 1)] [] g l (fun r g7 l8 => ∃ z9, r = some (iq_i z9) ∧ ((z9 = 0 ∨ z9 = 1) ∧ Q (some (iq_i z9)) g7 l8)))) ∧
        ((0 : Int) ≤ v3 → ((-2147483648 ≤ v3 ∧ v3 ≤ 2147483647) ∧
          (v3 ≤ (60 : Int) → (iq_P N xs 29 0 [some (iq_r 6), some (iq_i v2), some (iq_i v3), none] [] g l (fun r g10 l11 => r = none ∧ (iq_P N xs 30 0 [some (iq_r 0)] [] g10 l11 (fun r g12 l13 => ∃ z14, r = some (iq_i z14) ∧ ((z14 = 0 ∨ z14 = 1) ∧ Q (some (iq_i z14)) g12 l13)))))) ∧
          ((60 : Int) < v3 → (iq_P N xs 28 0 [some (iq_r 0), some (iq_i 1)] [] g l (fun r g15 l16 => ∃ z17, r = some (iq_i z17) ∧ ((z17 = 0 ∨ z17 = 1) ∧ Q (some (iq_i z17)) g15 l16))))))))))) :
    iq_P N xs 31 5 [some (iq_r 0), some (iq_i v1), some (iq_i v2), some (iq_i v3), none] [iq_r 6] g l Q := iq_w_ok (cuts := []) 20 5 _ _ _ _ H

-- ScaleForge.tray(III)Z at 5
set_option maxRecDepth 20000 in
theorem B31_q5_8 {N : Nat} {xs : Nat → Int32} {Q : iq_T} (v1 : Int) (v2 : Int) (v3 : Int) (g : iq_I) (l : iq_J) (H : (-2147483648 ≤ v2 ∧ v2 ≤ 2147483647) ∧
    (v2 < (0 : Int) → (iq_P N xs 28 0 [some (iq_r 0), some (iq_i 1)] [] g l (fun r g1 l2 => ∃ z3, r = some (iq_i z3) ∧ ((z3 = 0 ∨ z3 = 1) ∧ Q (some (iq_i z3)) g1 l2)))) ∧
    ((0 : Int) ≤ v2 → ((-2147483648 ≤ v2 ∧ v2 ≤ 2147483647) ∧
      ((3 : Int) < v2 → (iq_P N xs 28 0 [some (iq_r 0), some (iq_i 1)] [] g l (fun r g4 l5 => ∃ z6, r = some (iq_i z6) ∧ ((z6 = 0 ∨ z6 = 1) ∧ Q (some (iq_i z6)) g4 l5)))) ∧
      (v2 ≤ (3 : Int) → ((-2147483648 ≤ v3 ∧ v3 ≤ 2147483647) ∧
        (v3 < (0 : Int) → (iq_P N xs 28 0 [some (iq_r 0), some (iq_i 1)] [] g l (fun r g7 l8 => ∃ z9, r = some (iq_i z9) ∧ ((z9 = 0 ∨ z9 = 1) ∧ Q (some (iq_i z9)) g7 l8)))) ∧
        ((0 : Int) ≤ v3 → ((-2147483648 ≤ v3 ∧ v3 ≤ 2147483647) ∧
          (v3 ≤ (60 : Int) → (iq_P N xs 29 0 [some (iq_r 8), some (iq_i v2), some (iq_i v3), none] [] g l (fun r g10 l11 => r = none ∧ (iq_P N xs 30 0 [some (iq_r 0)] [] g10 l11 (fun r g12 l13 => ∃ z14, r = some (iq_i z14) ∧ ((z14 = 0 ∨ z14 = 1) ∧ Q (some (iq_i z14)) g12 l13)))))) ∧
          ((60 : Int) < v3 → (iq_P N xs 28 0 [some (iq_r 0), some (iq_i 1)] [] g l (fun r g15 l16 => ∃ z17, r = some (iq_i z17) ∧ ((z17 = 0 ∨ z17 = 1) ∧ Q (some (iq_i z17)) g15 l16))))))))))) :
    iq_P N xs 31 5 [some (iq_r 0), some (iq_i v1), some (iq_i v2), some (iq_i v3), none] [iq_r 8] g l Q := iq_w_ok (cuts := []) 20 5 _ _ _ _ H

-- ScaleForgeModel.isTray(I)Z at 0
set_option maxRecDepth 20000 in
theorem B32 {N : Nat} {xs : Nat → Int32} {Q : iq_T} (a0 : Int) (g : iq_I) (l : iq_J) (H : (-2147483648 ≤ a0 ∧ a0 ≤ 2147483647) ∧
    (a0 < (0 : Int) → (Q (some (iq_i 0)) g l)) ∧
    ((0 : Int) ≤ a0 → ((-2147483648 ≤ a0 ∧ a0 ≤ 2147483647) ∧
      ((4 : Int) ≤ a0 → (Q (some (iq_i 0)) g l)) ∧
      (a0 < (4 : Int) → (Q (some (iq_i 1)) g l))))) :
    iq_P N xs 32 0 [some (iq_i a0)] [] g l Q := iq_w_ok (cuts := []) 8 0 _ _ _ _ H

-- ScaleForgeModel.is(I)Z at 0
set_option maxRecDepth 20000 in
theorem B33_77 {N : Nat} {xs : Nat → Int32} {Q : iq_T} (a0 : Int) (g : iq_I) (l : iq_J) (H : (-2147483648 ≤ a0 ∧ a0 ≤ 2147483647) ∧
    (¬ a0 = (0 : Int) → (Q (some (iq_i 0)) (iq_uz g 77 1 a0) l)) ∧
    (a0 = (0 : Int) → (Q (some (iq_i 1)) (iq_uz g 77 1 a0) l))) :
    iq_P N xs 33 0 [some (iq_r 77), some (iq_i a0)] [] g l Q := iq_w_ok (cuts := []) 8 0 _ _ _ _ H

-- ScaleForgeModel.tray(III)Z at 0
set_option maxRecDepth 20000 in
theorem B34_77 {N : Nat} {xs : Nat → Int32} {Q : iq_T} (a0 : Int) (a1 : Int) (a2 : Int) (g : iq_I) (l : iq_J) (H : iq_P N xs 32 0 [some (iq_i a0)] [] g l (fun r g1 l2 => ∃ z3, r = some (iq_i z3) ∧ ((-2147483648 ≤ z3 ∧ z3 ≤ 2147483647) ∧
      (z3 = (0 : Int) → (iq_P N xs 33 0 [some (iq_r 77), some (iq_i 1)] [] g1 l2 (fun r g4 l5 => ∃ z6, r = some (iq_i z6) ∧ ((z6 = 0 ∨ z6 = 1) ∧ Q (some (iq_i z6)) g4 l5)))) ∧
      (¬ z3 = (0 : Int) → ((-2147483648 ≤ a1 ∧ a1 ≤ 2147483647) ∧
        (a1 < (0 : Int) → (iq_P N xs 33 0 [some (iq_r 77), some (iq_i 1)] [] g1 l2 (fun r g7 l8 => ∃ z9, r = some (iq_i z9) ∧ ((z9 = 0 ∨ z9 = 1) ∧ Q (some (iq_i z9)) g7 l8)))) ∧
        ((0 : Int) ≤ a1 → ((-2147483648 ≤ a1 ∧ a1 ≤ 2147483647) ∧
          ((3 : Int) < a1 → (iq_P N xs 33 0 [some (iq_r 77), some (iq_i 1)] [] g1 l2 (fun r g10 l11 => ∃ z12, r = some (iq_i z12) ∧ ((z12 = 0 ∨ z12 = 1) ∧ Q (some (iq_i z12)) g10 l11)))) ∧
          (a1 ≤ (3 : Int) → ((-2147483648 ≤ a2 ∧ a2 ≤ 2147483647) ∧
            (a2 < (0 : Int) → (iq_P N xs 33 0 [some (iq_r 77), some (iq_i 1)] [] g1 l2 (fun r g13 l14 => ∃ z15, r = some (iq_i z15) ∧ ((z15 = 0 ∨ z15 = 1) ∧ Q (some (iq_i z15)) g13 l14)))) ∧
            ((0 : Int) ≤ a2 → ((-2147483648 ≤ a2 ∧ a2 ≤ 2147483647) ∧
              (a2 ≤ (60 : Int) → ((0 ≤ a0 ∧ a0 < 4) ∧ ((0 ≤ a0 ∧ a0 < 4) ∧ (iq_P N xs 34 49 [some (iq_r 77), some (iq_i a0), some (iq_i a1), some (iq_i a2), some (iq_i 0)] [] (iq_uz (iq_uz g1 79 a0 a1) 80 a0 a2) l2 Q)))) ∧
              ((60 : Int) < a2 → (iq_P N xs 33 0 [some (iq_r 77), some (iq_i 1)] [] g1 l2 (fun r g16 l17 => ∃ z18, r = some (iq_i z18) ∧ ((z18 = 0 ∨ z18 = 1) ∧ Q (some (iq_i z18)) g16 l17))))))))))))))) :
    iq_P N xs 34 0 [some (iq_r 77), some (iq_i a0), some (iq_i a1), some (iq_i a2), none] [] g l Q := iq_w_ok (cuts := [49]) 25 0 _ _ _ _ H

-- ScaleForgeModel.tray(III)Z at 49
set_option maxRecDepth 20000 in
theorem B34_p49_77 {N : Nat} {xs : Nat → Int32} {Q : iq_T} (v1 : Int) (v2 : Int) (v3 : Int) (v4 : Int) (g : iq_I) (l : iq_J) (H : (-2147483648 ≤ v4 ∧ v4 ≤ 2147483647 ∧ -2147483648 ≤ v3 ∧ v3 ≤ 2147483647) ∧
    (v3 ≤ v4 → (iq_P N xs 33 0 [some (iq_r 77), some (iq_i 0)] [] g l (fun r g1 l2 => ∃ z3, r = some (iq_i z3) ∧ ((z3 = 0 ∨ z3 = 1) ∧ Q (some (iq_i z3)) g1 l2)))) ∧
    (v4 < v3 → ((0 ≤ ((60 * v1) + v4) ∧ ((60 * v1) + v4) < 240) ∧ (iq_P N xs 34 49 [some (iq_r 77), some (iq_i v1), some (iq_i v2), some (iq_i v3), some (iq_i (v4 + 1))] [] g (iq_uz l 81 ((60 * v1) + v4) (0 : Int64)) Q)))) :
    iq_P N xs 34 49 [some (iq_r 77), some (iq_i v1), some (iq_i v2), some (iq_i v3), some (iq_i v4)] [] g l Q := iq_w_ok (cuts := [49]) 14 49 _ _ _ _ H

-- ScaleForge$Tray.isMissing()Z at 0
set_option maxRecDepth 20000 in
theorem B35_2 {N : Nat} {xs : Nat → Int32} {Q : iq_T} (g : iq_I) (l : iq_J) (H : (-2147483648 ≤ (g 2 2) ∧ (g 2 2) ≤ 2147483647) ∧
    (¬ (g 2 2) = (-1 : Int) → (Q (some (iq_i 0)) g l)) ∧
    ((g 2 2) = (-1 : Int) → (Q (some (iq_i 1)) g l))) :
    iq_P N xs 35 0 [some (iq_r 2)] [] g l Q := iq_w_ok (cuts := []) 7 0 _ _ _ _ H

-- ScaleForge$Tray.isMissing()Z at 0
set_option maxRecDepth 20000 in
theorem B35_4 {N : Nat} {xs : Nat → Int32} {Q : iq_T} (g : iq_I) (l : iq_J) (H : (-2147483648 ≤ (g 4 2) ∧ (g 4 2) ≤ 2147483647) ∧
    (¬ (g 4 2) = (-1 : Int) → (Q (some (iq_i 0)) g l)) ∧
    ((g 4 2) = (-1 : Int) → (Q (some (iq_i 1)) g l))) :
    iq_P N xs 35 0 [some (iq_r 4)] [] g l Q := iq_w_ok (cuts := []) 7 0 _ _ _ _ H

-- ScaleForge$Tray.isMissing()Z at 0
set_option maxRecDepth 20000 in
theorem B35_6 {N : Nat} {xs : Nat → Int32} {Q : iq_T} (g : iq_I) (l : iq_J) (H : (-2147483648 ≤ (g 6 2) ∧ (g 6 2) ≤ 2147483647) ∧
    (¬ (g 6 2) = (-1 : Int) → (Q (some (iq_i 0)) g l)) ∧
    ((g 6 2) = (-1 : Int) → (Q (some (iq_i 1)) g l))) :
    iq_P N xs 35 0 [some (iq_r 6)] [] g l Q := iq_w_ok (cuts := []) 7 0 _ _ _ _ H

-- ScaleForge$Tray.isMissing()Z at 0
set_option maxRecDepth 20000 in
theorem B35_8 {N : Nat} {xs : Nat → Int32} {Q : iq_T} (g : iq_I) (l : iq_J) (H : (-2147483648 ≤ (g 8 2) ∧ (g 8 2) ≤ 2147483647) ∧
    (¬ (g 8 2) = (-1 : Int) → (Q (some (iq_i 0)) g l)) ∧
    ((g 8 2) = (-1 : Int) → (Q (some (iq_i 1)) g l))) :
    iq_P N xs 35 0 [some (iq_r 8)] [] g l Q := iq_w_ok (cuts := []) 7 0 _ _ _ _ H

-- ScaleForge$Tray.hasPlace(I)Z at 0
set_option maxRecDepth 20000 in
theorem B36_2 {N : Nat} {xs : Nat → Int32} {Q : iq_T} (a0 : Int) (g : iq_I) (l : iq_J) (H : (-2147483648 ≤ a0 ∧ a0 ≤ 2147483647) ∧
    (a0 < (0 : Int) → (Q (some (iq_i 0)) g l)) ∧
    ((0 : Int) ≤ a0 → ((-2147483648 ≤ a0 ∧ a0 ≤ 2147483647 ∧ -2147483648 ≤ (g 2 2) ∧ (g 2 2) ≤ 2147483647) ∧
      ((g 2 2) ≤ a0 → (Q (some (iq_i 0)) g l)) ∧
      (a0 < (g 2 2) → ((-2147483648 ≤ a0 ∧ a0 ≤ 2147483647) ∧
        ((60 : Int) ≤ a0 → (Q (some (iq_i 0)) g l)) ∧
        (a0 < (60 : Int) → (Q (some (iq_i 1)) g l))))))) :
    iq_P N xs 36 0 [some (iq_r 2), some (iq_i a0)] [] g l Q := iq_w_ok (cuts := []) 14 0 _ _ _ _ H

-- ScaleForge$Tray.hasPlace(I)Z at 0
set_option maxRecDepth 20000 in
theorem B36_4 {N : Nat} {xs : Nat → Int32} {Q : iq_T} (a0 : Int) (g : iq_I) (l : iq_J) (H : (-2147483648 ≤ a0 ∧ a0 ≤ 2147483647) ∧
    (a0 < (0 : Int) → (Q (some (iq_i 0)) g l)) ∧
    ((0 : Int) ≤ a0 → ((-2147483648 ≤ a0 ∧ a0 ≤ 2147483647 ∧ -2147483648 ≤ (g 4 2) ∧ (g 4 2) ≤ 2147483647) ∧
      ((g 4 2) ≤ a0 → (Q (some (iq_i 0)) g l)) ∧
      (a0 < (g 4 2) → ((-2147483648 ≤ a0 ∧ a0 ≤ 2147483647) ∧
        ((60 : Int) ≤ a0 → (Q (some (iq_i 0)) g l)) ∧
        (a0 < (60 : Int) → (Q (some (iq_i 1)) g l))))))) :
    iq_P N xs 36 0 [some (iq_r 4), some (iq_i a0)] [] g l Q := iq_w_ok (cuts := []) 14 0 _ _ _ _ H

-- ScaleForge$Tray.hasPlace(I)Z at 0
set_option maxRecDepth 20000 in
theorem B36_6 {N : Nat} {xs : Nat → Int32} {Q : iq_T} (a0 : Int) (g : iq_I) (l : iq_J) (H : (-2147483648 ≤ a0 ∧ a0 ≤ 2147483647) ∧
    (a0 < (0 : Int) → (Q (some (iq_i 0)) g l)) ∧
    ((0 : Int) ≤ a0 → ((-2147483648 ≤ a0 ∧ a0 ≤ 2147483647 ∧ -2147483648 ≤ (g 6 2) ∧ (g 6 2) ≤ 2147483647) ∧
      ((g 6 2) ≤ a0 → (Q (some (iq_i 0)) g l)) ∧
      (a0 < (g 6 2) → ((-2147483648 ≤ a0 ∧ a0 ≤ 2147483647) ∧
        ((60 : Int) ≤ a0 → (Q (some (iq_i 0)) g l)) ∧
        (a0 < (60 : Int) → (Q (some (iq_i 1)) g l))))))) :
    iq_P N xs 36 0 [some (iq_r 6), some (iq_i a0)] [] g l Q := iq_w_ok (cuts := []) 14 0 _ _ _ _ H

-- ScaleForge$Tray.hasPlace(I)Z at 0
set_option maxRecDepth 20000 in
theorem B36_8 {N : Nat} {xs : Nat → Int32} {Q : iq_T} (a0 : Int) (g : iq_I) (l : iq_J) (H : (-2147483648 ≤ a0 ∧ a0 ≤ 2147483647) ∧
    (a0 < (0 : Int) → (Q (some (iq_i 0)) g l)) ∧
    ((0 : Int) ≤ a0 → ((-2147483648 ≤ a0 ∧ a0 ≤ 2147483647 ∧ -2147483648 ≤ (g 8 2) ∧ (g 8 2) ≤ 2147483647) ∧
      ((g 8 2) ≤ a0 → (Q (some (iq_i 0)) g l)) ∧
      (a0 < (g 8 2) → ((-2147483648 ≤ a0 ∧ a0 ≤ 2147483647) ∧
        ((60 : Int) ≤ a0 → (Q (some (iq_i 0)) g l)) ∧
        (a0 < (60 : Int) → (Q (some (iq_i 1)) g l))))))) :
    iq_P N xs 36 0 [some (iq_r 8), some (iq_i a0)] [] g l Q := iq_w_ok (cuts := []) 14 0 _ _ _ _ H

-- ScaleForge.placeTrouble(LScaleForge$Tray;I)I at 0
set_option maxRecDepth 20000 in
theorem B37_2 {N : Nat} {xs : Nat → Int32} {Q : iq_T} (a0 : Int) (g : iq_I) (l : iq_J) (H : iq_P N xs 35 0 [some (iq_r 2)] [] g l (fun r g1 l2 => ∃ z3, r = some (iq_i z3) ∧ ((-2147483648 ≤ z3 ∧ z3 ≤ 2147483647) ∧
      (z3 = (0 : Int) → (iq_P N xs 36 0 [some (iq_r 2), some (iq_i a0)] [] g1 l2 (fun r g4 l5 => ∃ z6, r = some (iq_i z6) ∧ ((-2147483648 ≤ z6 ∧ z6 ≤ 2147483647) ∧
          (z6 = (0 : Int) → (Q (some (iq_i 3)) g4 l5)) ∧
          (¬ z6 = (0 : Int) → (Q (some (iq_i 0)) g4 l5)))))) ∧
      (¬ z3 = (0 : Int) → (Q (some (iq_i 2)) g1 l2))))) :
    iq_P N xs 37 0 [some (iq_r 2), some (iq_i a0)] [] g l Q := iq_w_ok (cuts := []) 12 0 _ _ _ _ H

-- ScaleForge.placeTrouble(LScaleForge$Tray;I)I at 0
set_option maxRecDepth 20000 in
theorem B37_4 {N : Nat} {xs : Nat → Int32} {Q : iq_T} (a0 : Int) (g : iq_I) (l : iq_J) (H : iq_P N xs 35 0 [some (iq_r 4)] [] g l (fun r g1 l2 => ∃ z3, r = some (iq_i z3) ∧ ((-2147483648 ≤ z3 ∧ z3 ≤ 2147483647) ∧
      (z3 = (0 : Int) → (iq_P N xs 36 0 [some (iq_r 4), some (iq_i a0)] [] g1 l2 (fun r g4 l5 => ∃ z6, r = some (iq_i z6) ∧ ((-2147483648 ≤ z6 ∧ z6 ≤ 2147483647) ∧
          (z6 = (0 : Int) → (Q (some (iq_i 3)) g4 l5)) ∧
          (¬ z6 = (0 : Int) → (Q (some (iq_i 0)) g4 l5)))))) ∧
      (¬ z3 = (0 : Int) → (Q (some (iq_i 2)) g1 l2))))) :
    iq_P N xs 37 0 [some (iq_r 4), some (iq_i a0)] [] g l Q := iq_w_ok (cuts := []) 12 0 _ _ _ _ H

-- ScaleForge.placeTrouble(LScaleForge$Tray;I)I at 0
set_option maxRecDepth 20000 in
theorem B37_6 {N : Nat} {xs : Nat → Int32} {Q : iq_T} (a0 : Int) (g : iq_I) (l : iq_J) (H : iq_P N xs 35 0 [some (iq_r 6)] [] g l (fun r g1 l2 => ∃ z3, r = some (iq_i z3) ∧ ((-2147483648 ≤ z3 ∧ z3 ≤ 2147483647) ∧
      (z3 = (0 : Int) → (iq_P N xs 36 0 [some (iq_r 6), some (iq_i a0)] [] g1 l2 (fun r g4 l5 => ∃ z6, r = some (iq_i z6) ∧ ((-2147483648 ≤ z6 ∧ z6 ≤ 2147483647) ∧
          (z6 = (0 : Int) → (Q (some (iq_i 3)) g4 l5)) ∧
          (¬ z6 = (0 : Int) → (Q (some (iq_i 0)) g4 l5)))))) ∧
      (¬ z3 = (0 : Int) → (Q (some (iq_i 2)) g1 l2))))) :
    iq_P N xs 37 0 [some (iq_r 6), some (iq_i a0)] [] g l Q := iq_w_ok (cuts := []) 12 0 _ _ _ _ H

-- ScaleForge.placeTrouble(LScaleForge$Tray;I)I at 0
set_option maxRecDepth 20000 in
theorem B37_8 {N : Nat} {xs : Nat → Int32} {Q : iq_T} (a0 : Int) (g : iq_I) (l : iq_J) (H : iq_P N xs 35 0 [some (iq_r 8)] [] g l (fun r g1 l2 => ∃ z3, r = some (iq_i z3) ∧ ((-2147483648 ≤ z3 ∧ z3 ≤ 2147483647) ∧
      (z3 = (0 : Int) → (iq_P N xs 36 0 [some (iq_r 8), some (iq_i a0)] [] g1 l2 (fun r g4 l5 => ∃ z6, r = some (iq_i z6) ∧ ((-2147483648 ≤ z6 ∧ z6 ≤ 2147483647) ∧
          (z6 = (0 : Int) → (Q (some (iq_i 3)) g4 l5)) ∧
          (¬ z6 = (0 : Int) → (Q (some (iq_i 0)) g4 l5)))))) ∧
      (¬ z3 = (0 : Int) → (Q (some (iq_i 2)) g1 l2))))) :
    iq_P N xs 37 0 [some (iq_r 8), some (iq_i a0)] [] g l Q := iq_w_ok (cuts := []) 12 0 _ _ _ _ H

-- ScaleForge.placeTrouble(LScaleForge$Tray;I)I at 0
set_option maxRecDepth 20000 in
theorem B37_null {N : Nat} {xs : Nat → Int32} {Q : iq_T} (a0 : Int) (g : iq_I) (l : iq_J) (H : Q (some (iq_i 1)) g l) :
    iq_P N xs 37 0 [some (iq_n), some (iq_i a0)] [] g l Q := iq_w_ok (cuts := []) 4 0 _ _ _ _ H

-- ScaleForge$Tray.cut(J)J at 0
set_option maxRecDepth 20000 in
theorem B38_2 {N : Nat} {xs : Nat → Int32} {Q : iq_T} (a0 : Int64) (g : iq_I) (l : iq_J) (H : (-2147483648 ≤ (g 2 1) ∧ (g 2 1) ≤ 2147483647 ∧ (2 : Int) - 0 + 1 = 3) ∧ (
    ((g 2 1) = 0 → (Q (some (iq_l (iq_i2l (iq_i2b (iq_l2i a0))))) g l)) ∧
    ((g 2 1) = 1 → (Q (some (iq_l (iq_i2l (iq_i2s (iq_l2i a0))))) g l)) ∧
    ((g 2 1) = 2 → (Q (some (iq_l (iq_i2l (iq_l2i a0)))) g l)) ∧ True) ∧
    (((g 2 1) < 0 ∨ 2 < (g 2 1)) → (Q (some (iq_l a0)) g l))) :
    iq_P N xs 38 0 [some (iq_r 2), some (iq_l a0), none] [] g l Q := iq_w_ok (cuts := []) 8 0 _ _ _ _ H

-- ScaleForge$Tray.cut(J)J at 0
set_option maxRecDepth 20000 in
theorem B38_4 {N : Nat} {xs : Nat → Int32} {Q : iq_T} (a0 : Int64) (g : iq_I) (l : iq_J) (H : (-2147483648 ≤ (g 4 1) ∧ (g 4 1) ≤ 2147483647 ∧ (2 : Int) - 0 + 1 = 3) ∧ (
    ((g 4 1) = 0 → (Q (some (iq_l (iq_i2l (iq_i2b (iq_l2i a0))))) g l)) ∧
    ((g 4 1) = 1 → (Q (some (iq_l (iq_i2l (iq_i2s (iq_l2i a0))))) g l)) ∧
    ((g 4 1) = 2 → (Q (some (iq_l (iq_i2l (iq_l2i a0)))) g l)) ∧ True) ∧
    (((g 4 1) < 0 ∨ 2 < (g 4 1)) → (Q (some (iq_l a0)) g l))) :
    iq_P N xs 38 0 [some (iq_r 4), some (iq_l a0), none] [] g l Q := iq_w_ok (cuts := []) 8 0 _ _ _ _ H

-- ScaleForge$Tray.cut(J)J at 0
set_option maxRecDepth 20000 in
theorem B38_6 {N : Nat} {xs : Nat → Int32} {Q : iq_T} (a0 : Int64) (g : iq_I) (l : iq_J) (H : (-2147483648 ≤ (g 6 1) ∧ (g 6 1) ≤ 2147483647 ∧ (2 : Int) - 0 + 1 = 3) ∧ (
    ((g 6 1) = 0 → (Q (some (iq_l (iq_i2l (iq_i2b (iq_l2i a0))))) g l)) ∧
    ((g 6 1) = 1 → (Q (some (iq_l (iq_i2l (iq_i2s (iq_l2i a0))))) g l)) ∧
    ((g 6 1) = 2 → (Q (some (iq_l (iq_i2l (iq_l2i a0)))) g l)) ∧ True) ∧
    (((g 6 1) < 0 ∨ 2 < (g 6 1)) → (Q (some (iq_l a0)) g l))) :
    iq_P N xs 38 0 [some (iq_r 6), some (iq_l a0), none] [] g l Q := iq_w_ok (cuts := []) 8 0 _ _ _ _ H

-- ScaleForge$Tray.cut(J)J at 0
set_option maxRecDepth 20000 in
theorem B38_8 {N : Nat} {xs : Nat → Int32} {Q : iq_T} (a0 : Int64) (g : iq_I) (l : iq_J) (H : (-2147483648 ≤ (g 8 1) ∧ (g 8 1) ≤ 2147483647 ∧ (2 : Int) - 0 + 1 = 3) ∧ (
    ((g 8 1) = 0 → (Q (some (iq_l (iq_i2l (iq_i2b (iq_l2i a0))))) g l)) ∧
    ((g 8 1) = 1 → (Q (some (iq_l (iq_i2l (iq_i2s (iq_l2i a0))))) g l)) ∧
    ((g 8 1) = 2 → (Q (some (iq_l (iq_i2l (iq_l2i a0)))) g l)) ∧ True) ∧
    (((g 8 1) < 0 ∨ 2 < (g 8 1)) → (Q (some (iq_l a0)) g l))) :
    iq_P N xs 38 0 [some (iq_r 8), some (iq_l a0), none] [] g l Q := iq_w_ok (cuts := []) 8 0 _ _ _ _ H

-- ScaleForge$Tray.put(IJ)V at 0
set_option maxRecDepth 20000 in
theorem B39_2 {N : Nat} {xs : Nat → Int32} {Q : iq_T} (a0 : Int) (a1 : Int64) (g : iq_I) (l : iq_J) (H : iq_P N xs 36 0 [some (iq_r 2), some (iq_i a0)] [] g l (fun r g1 l2 => ∃ z3, r = some (iq_i z3) ∧ ((-2147483648 ≤ z3 ∧ z3 ≤ 2147483647) ∧
      (z3 = (0 : Int) → (Q (none) g1 l2)) ∧
      (¬ z3 = (0 : Int) → (iq_P N xs 38 0 [some (iq_r 2), some (iq_l a1), none] [] g1 l2 (fun r g4 l5 => ∃ x6, r = some (iq_l x6) ∧ ((0 ≤ a0 ∧ a0 < 60) ∧ (Q (none) g4 (iq_uz l5 3 a0 x6))))))))) :
    iq_P N xs 39 0 [some (iq_r 2), some (iq_i a0), some (iq_l a1), none] [] g l Q := iq_w_ok (cuts := []) 12 0 _ _ _ _ H

-- ScaleForge$Tray.put(IJ)V at 0
set_option maxRecDepth 20000 in
theorem B39_4 {N : Nat} {xs : Nat → Int32} {Q : iq_T} (a0 : Int) (a1 : Int64) (g : iq_I) (l : iq_J) (H : iq_P N xs 36 0 [some (iq_r 4), some (iq_i a0)] [] g l (fun r g1 l2 => ∃ z3, r = some (iq_i z3) ∧ ((-2147483648 ≤ z3 ∧ z3 ≤ 2147483647) ∧
      (z3 = (0 : Int) → (Q (none) g1 l2)) ∧
      (¬ z3 = (0 : Int) → (iq_P N xs 38 0 [some (iq_r 4), some (iq_l a1), none] [] g1 l2 (fun r g4 l5 => ∃ x6, r = some (iq_l x6) ∧ ((0 ≤ a0 ∧ a0 < 60) ∧ (Q (none) g4 (iq_uz l5 5 a0 x6))))))))) :
    iq_P N xs 39 0 [some (iq_r 4), some (iq_i a0), some (iq_l a1), none] [] g l Q := iq_w_ok (cuts := []) 12 0 _ _ _ _ H

-- ScaleForge$Tray.put(IJ)V at 0
set_option maxRecDepth 20000 in
theorem B39_6 {N : Nat} {xs : Nat → Int32} {Q : iq_T} (a0 : Int) (a1 : Int64) (g : iq_I) (l : iq_J) (H : iq_P N xs 36 0 [some (iq_r 6), some (iq_i a0)] [] g l (fun r g1 l2 => ∃ z3, r = some (iq_i z3) ∧ ((-2147483648 ≤ z3 ∧ z3 ≤ 2147483647) ∧
      (z3 = (0 : Int) → (Q (none) g1 l2)) ∧
      (¬ z3 = (0 : Int) → (iq_P N xs 38 0 [some (iq_r 6), some (iq_l a1), none] [] g1 l2 (fun r g4 l5 => ∃ x6, r = some (iq_l x6) ∧ ((0 ≤ a0 ∧ a0 < 60) ∧ (Q (none) g4 (iq_uz l5 7 a0 x6))))))))) :
    iq_P N xs 39 0 [some (iq_r 6), some (iq_i a0), some (iq_l a1), none] [] g l Q := iq_w_ok (cuts := []) 12 0 _ _ _ _ H

-- ScaleForge$Tray.put(IJ)V at 0
set_option maxRecDepth 20000 in
theorem B39_8 {N : Nat} {xs : Nat → Int32} {Q : iq_T} (a0 : Int) (a1 : Int64) (g : iq_I) (l : iq_J) (H : iq_P N xs 36 0 [some (iq_r 8), some (iq_i a0)] [] g l (fun r g1 l2 => ∃ z3, r = some (iq_i z3) ∧ ((-2147483648 ≤ z3 ∧ z3 ≤ 2147483647) ∧
      (z3 = (0 : Int) → (Q (none) g1 l2)) ∧
      (¬ z3 = (0 : Int) → (iq_P N xs 38 0 [some (iq_r 8), some (iq_l a1), none] [] g1 l2 (fun r g4 l5 => ∃ x6, r = some (iq_l x6) ∧ ((0 ≤ a0 ∧ a0 < 60) ∧ (Q (none) g4 (iq_uz l5 9 a0 x6))))))))) :
    iq_P N xs 39 0 [some (iq_r 8), some (iq_i a0), some (iq_l a1), none] [] g l Q := iq_w_ok (cuts := []) 12 0 _ _ _ _ H

-- ScaleForge.write(IIJ)Z at 0
set_option maxRecDepth 20000 in
theorem B40_0 {N : Nat} {xs : Nat → Int32} {Q : iq_T} (a0 : Int) (a1 : Int) (a2 : Int64) (g : iq_I) (l : iq_J) (H : iq_P N xs 27 0 [some (iq_r 0), some (iq_i a0)] [] g l (fun r g1 l2 => iq_P N xs 40 5 [some (iq_r 0), some (iq_i a0), some (iq_i a1), some (iq_l a2), none, none, none] (r.toList ++ []) g1 l2 Q)) :
    iq_P N xs 40 0 [some (iq_r 0), some (iq_i a0), some (iq_i a1), some (iq_l a2), none, none, none] [] g l Q := iq_w_ok (cuts := []) 3 0 _ _ _ _ H

-- ScaleForge.write(IIJ)Z at 5
set_option maxRecDepth 20000 in
theorem B40_q5_null {N : Nat} {xs : Nat → Int32} {Q : iq_T} (v1 : Int) (v2 : Int) (v3 : Int64) (g : iq_I) (l : iq_J) (H : iq_P N xs 37 0 [some (iq_n), some (iq_i v2)] [] g l (fun r g1 l2 => ∃ z3, r = some (iq_i z3) ∧ (iq_P N xs 28 0 [some (iq_r 0), some (iq_i z3)] [] g1 l2 (fun r g4 l5 => ∃ z6, r = some (iq_i z6) ∧ ((z6 = 0 ∨ z6 = 1) ∧ Q (some (iq_i z6)) g4 l5))))) :
    iq_P N xs 40 5 [some (iq_r 0), some (iq_i v1), some (iq_i v2), some (iq_l v3), none, none, none] [iq_n] g l Q := iq_w_ok (cuts := []) 11 5 _ _ _ _ H

-- ScaleForge.write(IIJ)Z at 5
set_option maxRecDepth 20000 in
theorem B40_q5_2 {N : Nat} {xs : Nat → Int32} {Q : iq_T} (v1 : Int) (v2 : Int) (v3 : Int64) (g : iq_I) (l : iq_J) (H : iq_P N xs 37 0 [some (iq_r 2), some (iq_i v2)] [] g l (fun r g1 l2 => ∃ z3, r = some (iq_i z3) ∧ ((-2147483648 ≤ z3 ∧ z3 ≤ 2147483647) ∧
      (z3 = (0 : Int) → (iq_P N xs 39 0 [some (iq_r 2), some (iq_i v2), some (iq_l v3), none] [] g1 l2 (fun r g4 l5 => r = none ∧ (iq_P N xs 30 0 [some (iq_r 0)] [] g4 l5 (fun r g6 l7 => ∃ z8, r = some (iq_i z8) ∧ ((z8 = 0 ∨ z8 = 1) ∧ Q (some (iq_i z8)) g6 l7)))))) ∧
      (¬ z3 = (0 : Int) → (iq_P N xs 28 0 [some (iq_r 0), some (iq_i z3)] [] g1 l2 (fun r g9 l10 => ∃ z11, r = some (iq_i z11) ∧ ((z11 = 0 ∨ z11 = 1) ∧ Q (some (iq_i z11)) g9 l10))))))) :
    iq_P N xs 40 5 [some (iq_r 0), some (iq_i v1), some (iq_i v2), some (iq_l v3), none, none, none] [iq_r 2] g l Q := iq_w_ok (cuts := []) 16 5 _ _ _ _ H

-- ScaleForge.write(IIJ)Z at 5
set_option maxRecDepth 20000 in
theorem B40_q5_4 {N : Nat} {xs : Nat → Int32} {Q : iq_T} (v1 : Int) (v2 : Int) (v3 : Int64) (g : iq_I) (l : iq_J) (H : iq_P N xs 37 0 [some (iq_r 4), some (iq_i v2)] [] g l (fun r g1 l2 => ∃ z3, r = some (iq_i z3) ∧ ((-2147483648 ≤ z3 ∧ z3 ≤ 2147483647) ∧
      (z3 = (0 : Int) → (iq_P N xs 39 0 [some (iq_r 4), some (iq_i v2), some (iq_l v3), none] [] g1 l2 (fun r g4 l5 => r = none ∧ (iq_P N xs 30 0 [some (iq_r 0)] [] g4 l5 (fun r g6 l7 => ∃ z8, r = some (iq_i z8) ∧ ((z8 = 0 ∨ z8 = 1) ∧ Q (some (iq_i z8)) g6 l7)))))) ∧
      (¬ z3 = (0 : Int) → (iq_P N xs 28 0 [some (iq_r 0), some (iq_i z3)] [] g1 l2 (fun r g9 l10 => ∃ z11, r = some (iq_i z11) ∧ ((z11 = 0 ∨ z11 = 1) ∧ Q (some (iq_i z11)) g9 l10))))))) :
    iq_P N xs 40 5 [some (iq_r 0), some (iq_i v1), some (iq_i v2), some (iq_l v3), none, none, none] [iq_r 4] g l Q := iq_w_ok (cuts := []) 16 5 _ _ _ _ H

-- ScaleForge.write(IIJ)Z at 5
set_option maxRecDepth 20000 in
theorem B40_q5_6 {N : Nat} {xs : Nat → Int32} {Q : iq_T} (v1 : Int) (v2 : Int) (v3 : Int64) (g : iq_I) (l : iq_J) (H : iq_P N xs 37 0 [some (iq_r 6), some (iq_i v2)] [] g l (fun r g1 l2 => ∃ z3, r = some (iq_i z3) ∧ ((-2147483648 ≤ z3 ∧ z3 ≤ 2147483647) ∧
      (z3 = (0 : Int) → (iq_P N xs 39 0 [some (iq_r 6), some (iq_i v2), some (iq_l v3), none] [] g1 l2 (fun r g4 l5 => r = none ∧ (iq_P N xs 30 0 [some (iq_r 0)] [] g4 l5 (fun r g6 l7 => ∃ z8, r = some (iq_i z8) ∧ ((z8 = 0 ∨ z8 = 1) ∧ Q (some (iq_i z8)) g6 l7)))))) ∧
      (¬ z3 = (0 : Int) → (iq_P N xs 28 0 [some (iq_r 0), some (iq_i z3)] [] g1 l2 (fun r g9 l10 => ∃ z11, r = some (iq_i z11) ∧ ((z11 = 0 ∨ z11 = 1) ∧ Q (some (iq_i z11)) g9 l10))))))) :
    iq_P N xs 40 5 [some (iq_r 0), some (iq_i v1), some (iq_i v2), some (iq_l v3), none, none, none] [iq_r 6] g l Q := iq_w_ok (cuts := []) 16 5 _ _ _ _ H

-- ScaleForge.write(IIJ)Z at 5
set_option maxRecDepth 20000 in
theorem B40_q5_8 {N : Nat} {xs : Nat → Int32} {Q : iq_T} (v1 : Int) (v2 : Int) (v3 : Int64) (g : iq_I) (l : iq_J) (H : iq_P N xs 37 0 [some (iq_r 8), some (iq_i v2)] [] g l (fun r g1 l2 => ∃ z3, r = some (iq_i z3) ∧ ((-2147483648 ≤ z3 ∧ z3 ≤ 2147483647) ∧
      (z3 = (0 : Int) → (iq_P N xs 39 0 [some (iq_r 8), some (iq_i v2), some (iq_l v3), none] [] g1 l2 (fun r g4 l5 => r = none ∧ (iq_P N xs 30 0 [some (iq_r 0)] [] g4 l5 (fun r g6 l7 => ∃ z8, r = some (iq_i z8) ∧ ((z8 = 0 ∨ z8 = 1) ∧ Q (some (iq_i z8)) g6 l7)))))) ∧
      (¬ z3 = (0 : Int) → (iq_P N xs 28 0 [some (iq_r 0), some (iq_i z3)] [] g1 l2 (fun r g9 l10 => ∃ z11, r = some (iq_i z11) ∧ ((z11 = 0 ∨ z11 = 1) ∧ Q (some (iq_i z11)) g9 l10))))))) :
    iq_P N xs 40 5 [some (iq_r 0), some (iq_i v1), some (iq_i v2), some (iq_l v3), none, none, none] [iq_r 8] g l Q := iq_w_ok (cuts := []) 16 5 _ _ _ _ H

-- ScaleForgeModel.wrongPlace(II)I at 0
set_option maxRecDepth 20000 in
theorem B41_77 {N : Nat} {xs : Nat → Int32} {Q : iq_T} (a0 : Int) (a1 : Int) (g : iq_I) (l : iq_J) (H : iq_P N xs 32 0 [some (iq_i a0)] [] g l (fun r g1 l2 => ∃ z3, r = some (iq_i z3) ∧ ((-2147483648 ≤ z3 ∧ z3 ≤ 2147483647) ∧
      (¬ z3 = (0 : Int) → ((0 ≤ a0 ∧ a0 < 4) ∧ ((-2147483648 ≤ (g1 80 a0) ∧ (g1 80 a0) ≤ 2147483647) ∧
        (¬ (g1 80 a0) = (-1 : Int) → ((-2147483648 ≤ a1 ∧ a1 ≤ 2147483647) ∧
          (a1 < (0 : Int) → (Q (some (iq_i 3)) g1 l2)) ∧
          ((0 : Int) ≤ a1 → ((0 ≤ a0 ∧ a0 < 4) ∧ ((-2147483648 ≤ a1 ∧ a1 ≤ 2147483647 ∧ -2147483648 ≤ (g1 80 a0) ∧ (g1 80 a0) ≤ 2147483647) ∧
            (a1 < (g1 80 a0) → (Q (some (iq_i 0)) g1 l2)) ∧
            ((g1 80 a0) ≤ a1 → (Q (some (iq_i 3)) g1 l2))))))) ∧
        ((g1 80 a0) = (-1 : Int) → (Q (some (iq_i 2)) g1 l2))))) ∧
      (z3 = (0 : Int) → (Q (some (iq_i 1)) g1 l2))))) :
    iq_P N xs 41 0 [some (iq_r 77), some (iq_i a0), some (iq_i a1)] [] g l Q := iq_w_ok (cuts := []) 20 0 _ _ _ _ H

-- ScaleForgeModel.cut(JI)J at 0
set_option maxRecDepth 20000 in
theorem B42 {N : Nat} {xs : Nat → Int32} {Q : iq_T} (a0 : Int64) (a1 : Int) (g : iq_I) (l : iq_J) (H : (-2147483648 ≤ a1 ∧ a1 ≤ 2147483647) ∧
    (¬ a1 = (0 : Int) → ((-2147483648 ≤ a1 ∧ a1 ≤ 2147483647) ∧
      (¬ a1 = (1 : Int) → ((-2147483648 ≤ a1 ∧ a1 ≤ 2147483647) ∧
        (¬ a1 = (2 : Int) → (Q (some (iq_l a0)) g l)) ∧
        (a1 = (2 : Int) → (Q (some (iq_l (iq_i2l (iq_l2i a0)))) g l)))) ∧
      (a1 = (1 : Int) → (Q (some (iq_l (iq_i2l (iq_i2s (iq_l2i a0))))) g l)))) ∧
    (a1 = (0 : Int) → (Q (some (iq_l (iq_i2l (iq_i2b (iq_l2i a0))))) g l))) :
    iq_P N xs 42 0 [some (iq_l a0), none, some (iq_i a1)] [] g l Q := iq_w_ok (cuts := []) 13 0 _ _ _ _ H

-- ScaleForgeModel.write(IIJ)Z at 0
set_option maxRecDepth 20000 in
theorem B43_77 {N : Nat} {xs : Nat → Int32} {Q : iq_T} (a0 : Int) (a1 : Int) (a2 : Int64) (g : iq_I) (l : iq_J) (H : iq_P N xs 41 0 [some (iq_r 77), some (iq_i a0), some (iq_i a1)] [] g l (fun r g1 l2 => ∃ z3, r = some (iq_i z3) ∧ ((-2147483648 ≤ z3 ∧ z3 ≤ 2147483647) ∧
      (¬ z3 = (0 : Int) → (iq_P N xs 33 0 [some (iq_r 77), some (iq_i z3)] [] g1 l2 (fun r g4 l5 => ∃ z6, r = some (iq_i z6) ∧ ((z6 = 0 ∨ z6 = 1) ∧ Q (some (iq_i z6)) g4 l5)))) ∧
      (z3 = (0 : Int) → ((0 ≤ a0 ∧ a0 < 4) ∧ (iq_P N xs 42 0 [some (iq_l a2), none, some (iq_i (g1 79 a0))] [] g1 l2 (fun r g7 l8 => ∃ x9, r = some (iq_l x9) ∧ ((0 ≤ ((60 * a0) + a1) ∧ ((60 * a0) + a1) < 240) ∧ (iq_P N xs 33 0 [some (iq_r 77), some (iq_i z3)] [] g7 (iq_uz l8 81 ((60 * a0) + a1) x9) (fun r g10 l11 => ∃ z12, r = some (iq_i z12) ∧ ((z12 = 0 ∨ z12 = 1) ∧ Q (some (iq_i z12)) g10 l11))))))))))) :
    iq_P N xs 43 0 [some (iq_r 77), some (iq_i a0), some (iq_i a1), some (iq_l a2), none, none] [] g l Q := iq_w_ok (cuts := []) 25 0 _ _ _ _ H

-- ScaleForge.none(I)I at 0
set_option maxRecDepth 20000 in
theorem B44_0 {N : Nat} {xs : Nat → Int32} {Q : iq_T} (a0 : Int) (g : iq_I) (l : iq_J) (H : Q (some (iq_i (-1))) (iq_uz g 0 0 a0) l) :
    iq_P N xs 44 0 [some (iq_r 0), some (iq_i a0)] [] g l Q := iq_w_ok (cuts := []) 5 0 _ _ _ _ H

-- ScaleForge$Tray.at(I)J at 0
set_option maxRecDepth 20000 in
theorem B45_2 {N : Nat} {xs : Nat → Int32} {Q : iq_T} (a0 : Int) (g : iq_I) (l : iq_J) (H : iq_P N xs 36 0 [some (iq_r 2), some (iq_i a0)] [] g l (fun r g1 l2 => ∃ z3, r = some (iq_i z3) ∧ ((-2147483648 ≤ z3 ∧ z3 ≤ 2147483647) ∧
      (z3 = (0 : Int) → (Q (some (iq_l (Int64.ofNat 18446744073709551615))) g1 l2)) ∧
      (¬ z3 = (0 : Int) → ((0 ≤ a0 ∧ a0 < 60) ∧ (Q (some (iq_l (l2 3 a0))) g1 l2)))))) :
    iq_P N xs 45 0 [some (iq_r 2), some (iq_i a0)] [] g l Q := iq_w_ok (cuts := []) 10 0 _ _ _ _ H

-- ScaleForge$Tray.at(I)J at 0
set_option maxRecDepth 20000 in
theorem B45_4 {N : Nat} {xs : Nat → Int32} {Q : iq_T} (a0 : Int) (g : iq_I) (l : iq_J) (H : iq_P N xs 36 0 [some (iq_r 4), some (iq_i a0)] [] g l (fun r g1 l2 => ∃ z3, r = some (iq_i z3) ∧ ((-2147483648 ≤ z3 ∧ z3 ≤ 2147483647) ∧
      (z3 = (0 : Int) → (Q (some (iq_l (Int64.ofNat 18446744073709551615))) g1 l2)) ∧
      (¬ z3 = (0 : Int) → ((0 ≤ a0 ∧ a0 < 60) ∧ (Q (some (iq_l (l2 5 a0))) g1 l2)))))) :
    iq_P N xs 45 0 [some (iq_r 4), some (iq_i a0)] [] g l Q := iq_w_ok (cuts := []) 10 0 _ _ _ _ H

-- ScaleForge$Tray.at(I)J at 0
set_option maxRecDepth 20000 in
theorem B45_6 {N : Nat} {xs : Nat → Int32} {Q : iq_T} (a0 : Int) (g : iq_I) (l : iq_J) (H : iq_P N xs 36 0 [some (iq_r 6), some (iq_i a0)] [] g l (fun r g1 l2 => ∃ z3, r = some (iq_i z3) ∧ ((-2147483648 ≤ z3 ∧ z3 ≤ 2147483647) ∧
      (z3 = (0 : Int) → (Q (some (iq_l (Int64.ofNat 18446744073709551615))) g1 l2)) ∧
      (¬ z3 = (0 : Int) → ((0 ≤ a0 ∧ a0 < 60) ∧ (Q (some (iq_l (l2 7 a0))) g1 l2)))))) :
    iq_P N xs 45 0 [some (iq_r 6), some (iq_i a0)] [] g l Q := iq_w_ok (cuts := []) 10 0 _ _ _ _ H

-- ScaleForge$Tray.at(I)J at 0
set_option maxRecDepth 20000 in
theorem B45_8 {N : Nat} {xs : Nat → Int32} {Q : iq_T} (a0 : Int) (g : iq_I) (l : iq_J) (H : iq_P N xs 36 0 [some (iq_r 8), some (iq_i a0)] [] g l (fun r g1 l2 => ∃ z3, r = some (iq_i z3) ∧ ((-2147483648 ≤ z3 ∧ z3 ≤ 2147483647) ∧
      (z3 = (0 : Int) → (Q (some (iq_l (Int64.ofNat 18446744073709551615))) g1 l2)) ∧
      (¬ z3 = (0 : Int) → ((0 ≤ a0 ∧ a0 < 60) ∧ (Q (some (iq_l (l2 9 a0))) g1 l2)))))) :
    iq_P N xs 45 0 [some (iq_r 8), some (iq_i a0)] [] g l Q := iq_w_ok (cuts := []) 10 0 _ _ _ _ H

-- ScaleForge.read(II)J at 0
set_option maxRecDepth 20000 in
theorem B46_0 {N : Nat} {xs : Nat → Int32} {Q : iq_T} (a0 : Int) (a1 : Int) (g : iq_I) (l : iq_J) (H : iq_P N xs 27 0 [some (iq_r 0), some (iq_i a0)] [] g l (fun r g1 l2 => iq_P N xs 46 5 [some (iq_r 0), some (iq_i a0), some (iq_i a1), none, none] (r.toList ++ []) g1 l2 Q)) :
    iq_P N xs 46 0 [some (iq_r 0), some (iq_i a0), some (iq_i a1), none, none] [] g l Q := iq_w_ok (cuts := []) 3 0 _ _ _ _ H

-- ScaleForge.read(II)J at 5
set_option maxRecDepth 20000 in
theorem B46_q5_null {N : Nat} {xs : Nat → Int32} {Q : iq_T} (v1 : Int) (v2 : Int) (g : iq_I) (l : iq_J) (H : iq_P N xs 37 0 [some (iq_n), some (iq_i v2)] [] g l (fun r g1 l2 => ∃ z3, r = some (iq_i z3) ∧ (iq_P N xs 44 0 [some (iq_r 0), some (iq_i z3)] [] g1 l2 (fun r g4 l5 => ∃ z6, r = some (iq_i z6) ∧ (Q (some (iq_l (iq_i2l z6))) g4 l5))))) :
    iq_P N xs 46 5 [some (iq_r 0), some (iq_i v1), some (iq_i v2), none, none] [iq_n] g l Q := iq_w_ok (cuts := []) 12 5 _ _ _ _ H

-- ScaleForge.read(II)J at 5
set_option maxRecDepth 20000 in
theorem B46_q5_2 {N : Nat} {xs : Nat → Int32} {Q : iq_T} (v1 : Int) (v2 : Int) (g : iq_I) (l : iq_J) (H : iq_P N xs 37 0 [some (iq_r 2), some (iq_i v2)] [] g l (fun r g1 l2 => ∃ z3, r = some (iq_i z3) ∧ ((-2147483648 ≤ z3 ∧ z3 ≤ 2147483647) ∧
      (z3 = (0 : Int) → (iq_P N xs 45 0 [some (iq_r 2), some (iq_i v2)] [] (iq_uz g1 0 0 0) l2 (fun r g4 l5 => ∃ x6, r = some (iq_l x6) ∧ (Q (some (iq_l x6)) g4 l5)))) ∧
      (¬ z3 = (0 : Int) → (iq_P N xs 44 0 [some (iq_r 0), some (iq_i z3)] [] g1 l2 (fun r g7 l8 => ∃ z9, r = some (iq_i z9) ∧ (Q (some (iq_l (iq_i2l z9))) g7 l8))))))) :
    iq_P N xs 46 5 [some (iq_r 0), some (iq_i v1), some (iq_i v2), none, none] [iq_r 2] g l Q := iq_w_ok (cuts := []) 16 5 _ _ _ _ H

-- ScaleForge.read(II)J at 5
set_option maxRecDepth 20000 in
theorem B46_q5_4 {N : Nat} {xs : Nat → Int32} {Q : iq_T} (v1 : Int) (v2 : Int) (g : iq_I) (l : iq_J) (H : iq_P N xs 37 0 [some (iq_r 4), some (iq_i v2)] [] g l (fun r g1 l2 => ∃ z3, r = some (iq_i z3) ∧ ((-2147483648 ≤ z3 ∧ z3 ≤ 2147483647) ∧
      (z3 = (0 : Int) → (iq_P N xs 45 0 [some (iq_r 4), some (iq_i v2)] [] (iq_uz g1 0 0 0) l2 (fun r g4 l5 => ∃ x6, r = some (iq_l x6) ∧ (Q (some (iq_l x6)) g4 l5)))) ∧
      (¬ z3 = (0 : Int) → (iq_P N xs 44 0 [some (iq_r 0), some (iq_i z3)] [] g1 l2 (fun r g7 l8 => ∃ z9, r = some (iq_i z9) ∧ (Q (some (iq_l (iq_i2l z9))) g7 l8))))))) :
    iq_P N xs 46 5 [some (iq_r 0), some (iq_i v1), some (iq_i v2), none, none] [iq_r 4] g l Q := iq_w_ok (cuts := []) 16 5 _ _ _ _ H

-- ScaleForge.read(II)J at 5
set_option maxRecDepth 20000 in
theorem B46_q5_6 {N : Nat} {xs : Nat → Int32} {Q : iq_T} (v1 : Int) (v2 : Int) (g : iq_I) (l : iq_J) (H : iq_P N xs 37 0 [some (iq_r 6), some (iq_i v2)] [] g l (fun r g1 l2 => ∃ z3, r = some (iq_i z3) ∧ ((-2147483648 ≤ z3 ∧ z3 ≤ 2147483647) ∧
      (z3 = (0 : Int) → (iq_P N xs 45 0 [some (iq_r 6), some (iq_i v2)] [] (iq_uz g1 0 0 0) l2 (fun r g4 l5 => ∃ x6, r = some (iq_l x6) ∧ (Q (some (iq_l x6)) g4 l5)))) ∧
      (¬ z3 = (0 : Int) → (iq_P N xs 44 0 [some (iq_r 0), some (iq_i z3)] [] g1 l2 (fun r g7 l8 => ∃ z9, r = some (iq_i z9) ∧ (Q (some (iq_l (iq_i2l z9))) g7 l8))))))) :
    iq_P N xs 46 5 [some (iq_r 0), some (iq_i v1), some (iq_i v2), none, none] [iq_r 6] g l Q := iq_w_ok (cuts := []) 16 5 _ _ _ _ H

-- ScaleForge.read(II)J at 5
set_option maxRecDepth 20000 in
theorem B46_q5_8 {N : Nat} {xs : Nat → Int32} {Q : iq_T} (v1 : Int) (v2 : Int) (g : iq_I) (l : iq_J) (H : iq_P N xs 37 0 [some (iq_r 8), some (iq_i v2)] [] g l (fun r g1 l2 => ∃ z3, r = some (iq_i z3) ∧ ((-2147483648 ≤ z3 ∧ z3 ≤ 2147483647) ∧
      (z3 = (0 : Int) → (iq_P N xs 45 0 [some (iq_r 8), some (iq_i v2)] [] (iq_uz g1 0 0 0) l2 (fun r g4 l5 => ∃ x6, r = some (iq_l x6) ∧ (Q (some (iq_l x6)) g4 l5)))) ∧
      (¬ z3 = (0 : Int) → (iq_P N xs 44 0 [some (iq_r 0), some (iq_i z3)] [] g1 l2 (fun r g7 l8 => ∃ z9, r = some (iq_i z9) ∧ (Q (some (iq_l (iq_i2l z9))) g7 l8))))))) :
    iq_P N xs 46 5 [some (iq_r 0), some (iq_i v1), some (iq_i v2), none, none] [iq_r 8] g l Q := iq_w_ok (cuts := []) 16 5 _ _ _ _ H

-- ScaleForgeModel.read(II)J at 0
set_option maxRecDepth 20000 in
theorem B47_77 {N : Nat} {xs : Nat → Int32} {Q : iq_T} (a0 : Int) (a1 : Int) (g : iq_I) (l : iq_J) (H : iq_P N xs 41 0 [some (iq_r 77), some (iq_i a0), some (iq_i a1)] [] g l (fun r g1 l2 => ∃ z3, r = some (iq_i z3) ∧ ((-2147483648 ≤ z3 ∧ z3 ≤ 2147483647) ∧
      (z3 ≤ (0 : Int) → ((0 ≤ ((60 * a0) + a1) ∧ ((60 * a0) + a1) < 240) ∧ (Q (some (iq_l (l2 81 ((60 * a0) + a1)))) (iq_uz g1 77 1 z3) l2))) ∧
      ((0 : Int) < z3 → (Q (some (iq_l (Int64.ofNat 18446744073709551615))) (iq_uz g1 77 1 z3) l2))))) :
    iq_P N xs 47 0 [some (iq_r 77), some (iq_i a0), some (iq_i a1)] [] g l Q := iq_w_ok (cuts := []) 18 0 _ _ _ _ H

-- ScaleForge$Tray.hasRun(II)Z at 0
set_option maxRecDepth 20000 in
theorem B48_2 {N : Nat} {xs : Nat → Int32} {Q : iq_T} (a0 : Int) (a1 : Int) (g : iq_I) (l : iq_J) (H : (-2147483648 ≤ a0 ∧ a0 ≤ 2147483647) ∧
    (a0 < (0 : Int) → (Q (some (iq_i 0)) g l)) ∧
    ((0 : Int) ≤ a0 → ((-2147483648 ≤ a1 ∧ a1 ≤ 2147483647) ∧
      (a1 < (0 : Int) → (Q (some (iq_i 0)) g l)) ∧
      ((0 : Int) ≤ a1 → ((-2147483648 ≤ (iq_lc ((iq_i2l a0) + (iq_i2l a1)) (iq_i2l (g 2 2))) ∧ (iq_lc ((iq_i2l a0) + (iq_i2l a1)) (iq_i2l (g 2 2))) ≤ 2147483647) ∧
        ((0 : Int) < (iq_lc ((iq_i2l a0) + (iq_i2l a1)) (iq_i2l (g 2 2))) → (Q (some (iq_i 0)) g l)) ∧
        ((iq_lc ((iq_i2l a0) + (iq_i2l a1)) (iq_i2l (g 2 2))) ≤ (0 : Int) → (Q (some (iq_i 1)) g l))))))) :
    iq_P N xs 48 0 [some (iq_r 2), some (iq_i a0), some (iq_i a1)] [] g l Q := iq_w_ok (cuts := []) 17 0 _ _ _ _ H

-- ScaleForge$Tray.hasRun(II)Z at 0
set_option maxRecDepth 20000 in
theorem B48_4 {N : Nat} {xs : Nat → Int32} {Q : iq_T} (a0 : Int) (a1 : Int) (g : iq_I) (l : iq_J) (H : (-2147483648 ≤ a0 ∧ a0 ≤ 2147483647) ∧
    (a0 < (0 : Int) → (Q (some (iq_i 0)) g l)) ∧
    ((0 : Int) ≤ a0 → ((-2147483648 ≤ a1 ∧ a1 ≤ 2147483647) ∧
      (a1 < (0 : Int) → (Q (some (iq_i 0)) g l)) ∧
      ((0 : Int) ≤ a1 → ((-2147483648 ≤ (iq_lc ((iq_i2l a0) + (iq_i2l a1)) (iq_i2l (g 4 2))) ∧ (iq_lc ((iq_i2l a0) + (iq_i2l a1)) (iq_i2l (g 4 2))) ≤ 2147483647) ∧
        ((0 : Int) < (iq_lc ((iq_i2l a0) + (iq_i2l a1)) (iq_i2l (g 4 2))) → (Q (some (iq_i 0)) g l)) ∧
        ((iq_lc ((iq_i2l a0) + (iq_i2l a1)) (iq_i2l (g 4 2))) ≤ (0 : Int) → (Q (some (iq_i 1)) g l))))))) :
    iq_P N xs 48 0 [some (iq_r 4), some (iq_i a0), some (iq_i a1)] [] g l Q := iq_w_ok (cuts := []) 17 0 _ _ _ _ H

-- ScaleForge$Tray.hasRun(II)Z at 0
set_option maxRecDepth 20000 in
theorem B48_6 {N : Nat} {xs : Nat → Int32} {Q : iq_T} (a0 : Int) (a1 : Int) (g : iq_I) (l : iq_J) (H : (-2147483648 ≤ a0 ∧ a0 ≤ 2147483647) ∧
    (a0 < (0 : Int) → (Q (some (iq_i 0)) g l)) ∧
    ((0 : Int) ≤ a0 → ((-2147483648 ≤ a1 ∧ a1 ≤ 2147483647) ∧
      (a1 < (0 : Int) → (Q (some (iq_i 0)) g l)) ∧
      ((0 : Int) ≤ a1 → ((-2147483648 ≤ (iq_lc ((iq_i2l a0) + (iq_i2l a1)) (iq_i2l (g 6 2))) ∧ (iq_lc ((iq_i2l a0) + (iq_i2l a1)) (iq_i2l (g 6 2))) ≤ 2147483647) ∧
        ((0 : Int) < (iq_lc ((iq_i2l a0) + (iq_i2l a1)) (iq_i2l (g 6 2))) → (Q (some (iq_i 0)) g l)) ∧
        ((iq_lc ((iq_i2l a0) + (iq_i2l a1)) (iq_i2l (g 6 2))) ≤ (0 : Int) → (Q (some (iq_i 1)) g l))))))) :
    iq_P N xs 48 0 [some (iq_r 6), some (iq_i a0), some (iq_i a1)] [] g l Q := iq_w_ok (cuts := []) 17 0 _ _ _ _ H

-- ScaleForge$Tray.hasRun(II)Z at 0
set_option maxRecDepth 20000 in
theorem B48_8 {N : Nat} {xs : Nat → Int32} {Q : iq_T} (a0 : Int) (a1 : Int) (g : iq_I) (l : iq_J) (H : (-2147483648 ≤ a0 ∧ a0 ≤ 2147483647) ∧
    (a0 < (0 : Int) → (Q (some (iq_i 0)) g l)) ∧
    ((0 : Int) ≤ a0 → ((-2147483648 ≤ a1 ∧ a1 ≤ 2147483647) ∧
      (a1 < (0 : Int) → (Q (some (iq_i 0)) g l)) ∧
      ((0 : Int) ≤ a1 → ((-2147483648 ≤ (iq_lc ((iq_i2l a0) + (iq_i2l a1)) (iq_i2l (g 8 2))) ∧ (iq_lc ((iq_i2l a0) + (iq_i2l a1)) (iq_i2l (g 8 2))) ≤ 2147483647) ∧
        ((0 : Int) < (iq_lc ((iq_i2l a0) + (iq_i2l a1)) (iq_i2l (g 8 2))) → (Q (some (iq_i 0)) g l)) ∧
        ((iq_lc ((iq_i2l a0) + (iq_i2l a1)) (iq_i2l (g 8 2))) ≤ (0 : Int) → (Q (some (iq_i 1)) g l))))))) :
    iq_P N xs 48 0 [some (iq_r 8), some (iq_i a0), some (iq_i a1)] [] g l Q := iq_w_ok (cuts := []) 17 0 _ _ _ _ H

-- ScaleForge$Bits.has(JI)Z at 0
set_option maxRecDepth 20000 in
theorem B74 {N : Nat} {xs : Nat → Int32} {Q : iq_T} (a0 : Int64) (a1 : Int) (g : iq_I) (l : iq_J) (H : (-2147483648 ≤ a1 ∧ a1 ≤ 2147483647) ∧
    (a1 < (0 : Int) → (Q (some (iq_i 0)) g l)) ∧
    ((0 : Int) ≤ a1 → ((-2147483648 ≤ a1 ∧ a1 ≤ 2147483647) ∧
      ((64 : Int) ≤ a1 → (Q (some (iq_i 0)) g l)) ∧
      (a1 < (64 : Int) → ((-2147483648 ≤ (iq_lc ((iq_lsr a0 a1) &&& (1 : Int64)) (0 : Int64)) ∧ (iq_lc ((iq_lsr a0 a1) &&& (1 : Int64)) (0 : Int64)) ≤ 2147483647) ∧
        ((iq_lc ((iq_lsr a0 a1) &&& (1 : Int64)) (0 : Int64)) = (0 : Int) → (Q (some (iq_i 0)) g l)) ∧
        (¬ (iq_lc ((iq_lsr a0 a1) &&& (1 : Int64)) (0 : Int64)) = (0 : Int) → (Q (some (iq_i 1)) g l))))))) :
    iq_P N xs 74 0 [some (iq_l a0), none, some (iq_i a1)] [] g l Q := iq_w_ok (cuts := []) 16 0 _ _ _ _ H

-- ScaleForge$Scale.isTone(I)Z at 0
set_option maxRecDepth 20000 in
theorem B77_13 {N : Nat} {xs : Nat → Int32} {Q : iq_T} (a0 : Int) (g : iq_I) (l : iq_J) (H : (-2147483648 ≤ a0 ∧ a0 ≤ 2147483647) ∧
    (a0 < (0 : Int) → (Q (some (iq_i 0)) g l)) ∧
    ((0 : Int) ≤ a0 → ((-2147483648 ≤ a0 ∧ a0 ≤ 2147483647 ∧ -2147483648 ≤ (g 14 1) ∧ (g 14 1) ≤ 2147483647) ∧
      ((g 14 1) ≤ a0 → (Q (some (iq_i 0)) g l)) ∧
      (a0 < (g 14 1) → (Q (some (iq_i 1)) g l))))) :
    iq_P N xs 77 0 [some (iq_r 13), some (iq_i a0)] [] g l Q := iq_w_ok (cuts := []) 11 0 _ _ _ _ H

-- ScaleForge$Scale.isTone(I)Z at 0
set_option maxRecDepth 20000 in
theorem B77_23 {N : Nat} {xs : Nat → Int32} {Q : iq_T} (a0 : Int) (g : iq_I) (l : iq_J) (H : (-2147483648 ≤ a0 ∧ a0 ≤ 2147483647) ∧
    (a0 < (0 : Int) → (Q (some (iq_i 0)) g l)) ∧
    ((0 : Int) ≤ a0 → ((-2147483648 ≤ a0 ∧ a0 ≤ 2147483647 ∧ -2147483648 ≤ (g 24 1) ∧ (g 24 1) ≤ 2147483647) ∧
      ((g 24 1) ≤ a0 → (Q (some (iq_i 0)) g l)) ∧
      (a0 < (g 24 1) → (Q (some (iq_i 1)) g l))))) :
    iq_P N xs 77 0 [some (iq_r 23), some (iq_i a0)] [] g l Q := iq_w_ok (cuts := []) 11 0 _ _ _ _ H

-- ScaleForge$Scale.isTone(I)Z at 0
set_option maxRecDepth 20000 in
theorem B77_44 {N : Nat} {xs : Nat → Int32} {Q : iq_T} (a0 : Int) (g : iq_I) (l : iq_J) (H : (-2147483648 ≤ a0 ∧ a0 ≤ 2147483647) ∧
    (a0 < (0 : Int) → (Q (some (iq_i 0)) g l)) ∧
    ((0 : Int) ≤ a0 → ((-2147483648 ≤ a0 ∧ a0 ≤ 2147483647 ∧ -2147483648 ≤ (g 45 1) ∧ (g 45 1) ≤ 2147483647) ∧
      ((g 45 1) ≤ a0 → (Q (some (iq_i 0)) g l)) ∧
      (a0 < (g 45 1) → (Q (some (iq_i 1)) g l))))) :
    iq_P N xs 77 0 [some (iq_r 44), some (iq_i a0)] [] g l Q := iq_w_ok (cuts := []) 11 0 _ _ _ _ H

-- ScaleForge.leastOf(I)I at 0
set_option maxRecDepth 20000 in
theorem B79 {N : Nat} {xs : Nat → Int32} {Q : iq_T} (a0 : Int) (g : iq_I) (l : iq_J) (H : (-2147483648 ≤ a0 ∧ a0 ≤ 2147483647) ∧
    (a0 < (0 : Int) → (Q (some (iq_i 0)) g l)) ∧
    ((0 : Int) ≤ a0 → ((-2147483648 ≤ a0 ∧ a0 ≤ 2147483647 ∧ -2147483648 ≤ (9 : Int) ∧ (9 : Int) ≤ 2147483647) ∧
      ((9 : Int) ≤ a0 → (Q (some (iq_i 0)) g l)) ∧
      (a0 < (9 : Int) → ((0 ≤ a0 ∧ a0 < 9 ∧ a0 ≤ 65536) ∧ (Q (some (iq_i (((ij_sa.getD 1 []).getD (Int.toNat a0) 0).toInt))) g l)))))) :
    iq_P N xs 79 0 [some (iq_i a0)] [] g l Q := iq_w_ok (cuts := []) 11 0 _ _ _ _ H

-- ScaleForge$Scale.period()I at 0
set_option maxRecDepth 20000 in
theorem B80_13 {N : Nat} {xs : Nat → Int32} {Q : iq_T} (g : iq_I) (l : iq_J) (H : Q (some (iq_i (g 14 1))) g l) :
    iq_P N xs 80 0 [some (iq_r 13)] [] g l Q := iq_w_ok (cuts := []) 5 0 _ _ _ _ H

-- ScaleForge$Scale.period()I at 0
set_option maxRecDepth 20000 in
theorem B80_23 {N : Nat} {xs : Nat → Int32} {Q : iq_T} (g : iq_I) (l : iq_J) (H : Q (some (iq_i (g 24 1))) g l) :
    iq_P N xs 80 0 [some (iq_r 23)] [] g l Q := iq_w_ok (cuts := []) 5 0 _ _ _ _ H

-- ScaleForge$Scale.period()I at 0
set_option maxRecDepth 20000 in
theorem B80_44 {N : Nat} {xs : Nat → Int32} {Q : iq_T} (g : iq_I) (l : iq_J) (H : Q (some (iq_i (g 45 1))) g l) :
    iq_P N xs 80 0 [some (iq_r 44)] [] g l Q := iq_w_ok (cuts := []) 5 0 _ _ _ _ H

-- ScaleForge.mostOf(II)I at 0
set_option maxRecDepth 20000 in
theorem B81 {N : Nat} {xs : Nat → Int32} {Q : iq_T} (a0 : Int) (a1 : Int) (g : iq_I) (l : iq_J) (H : iq_P N xs 3 0 [some (iq_i a0)] [] g l (fun r g1 l2 => ∃ z3, r = some (iq_i z3) ∧ ((-2147483648 ≤ z3 ∧ z3 ≤ 2147483647) ∧
      (z3 = (0 : Int) → ((-2147483648 ≤ a0 ∧ a0 ≤ 2147483647) ∧
        (a0 < (0 : Int) → (Q (some (iq_i 0)) g1 l2)) ∧
        ((0 : Int) ≤ a0 → ((-2147483648 ≤ a0 ∧ a0 ≤ 2147483647 ∧ -2147483648 ≤ (9 : Int) ∧ (9 : Int) ≤ 2147483647) ∧
          ((9 : Int) ≤ a0 → (Q (some (iq_i 0)) g1 l2)) ∧
          (a0 < (9 : Int) → ((0 ≤ a0 ∧ a0 < 9 ∧ a0 ≤ 65536) ∧ (Q (some (iq_i (((ij_sa.getD 2 []).getD (Int.toNat a0) 0).toInt))) g1 l2))))))) ∧
      (¬ z3 = (0 : Int) → (Q (some (iq_i (a1 - 1))) g1 l2))))) :
    iq_P N xs 81 0 [some (iq_i a0), some (iq_i a1)] [] g l Q := iq_w_ok (cuts := []) 14 0 _ _ _ _ H
