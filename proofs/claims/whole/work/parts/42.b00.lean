/-! What must hold that a stretch of a method ends well: methods 274 to 295. -/
-- ScaleForge.common(I)I at 0
set_option maxRecDepth 20000 in
theorem B274_0 {N : Nat} {xs : Nat → Int32} {Q : iq_T} (a0 : Int) (g : iq_I) (l : iq_J) (H : iq_P N xs 77 0 [some (iq_r 23), some (iq_i a0)] [] g l (fun r g1 l2 => ∃ z3, r = some (iq_i z3) ∧ ((-2147483648 ≤ z3 ∧ z3 ≤ 2147483647) ∧
      (¬ z3 = (0 : Int) → (iq_P N xs 135 0 [some (iq_r 23), some (iq_i 2)] [] g1 l2 (fun r g4 l5 => ∃ z6, r = some (iq_i z6) ∧ (iq_P N xs 135 0 [some (iq_r 23), some (iq_i 3)] [] g4 l5 (fun r g7 l8 => ∃ z9, r = some (iq_i z9) ∧ (iq_P N xs 8 0 [some (iq_r 23), some (iq_i z6), some (iq_i a0), some (iq_i z9), none, none, none, none] [] g7 l8 (fun r g10 l11 => ∃ x12, r = some (iq_l x12) ∧ (iq_P N xs 88 0 [some (iq_l ((l11 23 4) &&& x12)), none] [] g10 l11 (fun r g13 l14 => ∃ z15, r = some (iq_i z15) ∧ (iq_P N xs 90 0 [some (iq_r 0), some (iq_i z15)] [] g13 l14 (fun r g16 l17 => ∃ z18, r = some (iq_i z18) ∧ (Q (some (iq_i z18)) g16 l17)))))))))))) ∧
      (z3 = (0 : Int) → (iq_P N xs 44 0 [some (iq_r 0), some (iq_i 1)] [] g1 l2 (fun r g19 l20 => ∃ z21, r = some (iq_i z21) ∧ (Q (some (iq_i z21)) g19 l20))))))) :
    iq_P N xs 274 0 [some (iq_r 0), some (iq_i a0), none, none] [] g l Q := iq_w_ok (cuts := []) 27 0 _ _ _ _ H

-- ScaleForgeModel.common(I)I at 0
set_option maxRecDepth 20000 in
theorem B275_77 {N : Nat} {xs : Nat → Int32} {Q : iq_T} (a0 : Int) (g : iq_I) (l : iq_J) (H : iq_P N xs 158 0 [some (iq_r 77), some (iq_i a0)] [] g l (fun r g1 l2 => ∃ z3, r = some (iq_i z3) ∧ ((-2147483648 ≤ z3 ∧ z3 ≤ 2147483647) ∧
      (¬ z3 = (0 : Int) → (iq_P N xs 114 0 [some (iq_r 77)] [] g1 l2 (fun r g4 l5 => r = none ∧ (iq_P N xs 192 0 [some (iq_r 77), some (iq_i (g4 78 2)), some (iq_i a0), none, none] [] g4 l5 (fun r g6 l7 => r = none ∧ (iq_P N xs 275 33 [some (iq_r 77), some (iq_i a0), some (iq_i 0), some (iq_i 0)] [] g6 l7 Q)))))) ∧
      (z3 = (0 : Int) → (iq_P N xs 98 0 [some (iq_r 77), some (iq_i 1)] [] g1 l2 (fun r g8 l9 => ∃ z10, r = some (iq_i z10) ∧ (Q (some (iq_i z10)) g8 l9))))))) :
    iq_P N xs 275 0 [some (iq_r 77), some (iq_i a0), none, none] [] g l Q := iq_w_ok (cuts := [33]) 17 0 _ _ _ _ H

-- ScaleForgeModel.common(I)I at 33
set_option maxRecDepth 20000 in
theorem B275_p33_77 {N : Nat} {xs : Nat → Int32} {Q : iq_T} (v1 : Int) (v2 : Int) (v3 : Int) (g : iq_I) (l : iq_J) (H : (-2147483648 ≤ v3 ∧ v3 ≤ 2147483647 ∧ -2147483648 ≤ (g 77 26) ∧ (g 77 26) ≤ 2147483647) ∧
    ((g 77 26) ≤ v3 → (iq_P N xs 115 0 [some (iq_r 77), some (iq_i v2)] [] g l (fun r g1 l2 => ∃ z3, r = some (iq_i z3) ∧ (Q (some (iq_i z3)) g1 l2)))) ∧
    (v3 < (g 77 26) → ((0 ≤ v3 ∧ v3 < 24) ∧ ((0 ≤ (g 85 v3) ∧ (g 85 v3) < 60) ∧ ((-2147483648 ≤ (g 89 (g 85 v3)) ∧ (g 89 (g 85 v3)) ≤ 2147483647) ∧
      ((g 89 (g 85 v3)) = (0 : Int) → (iq_P N xs 275 33 [some (iq_r 77), some (iq_i v1), some (iq_i (v2 + 0)), some (iq_i (v3 + 1))] [] g l Q)) ∧
      (¬ (g 89 (g 85 v3)) = (0 : Int) → (iq_P N xs 275 33 [some (iq_r 77), some (iq_i v1), some (iq_i (v2 + 1)), some (iq_i (v3 + 1))] [] g l Q))))))) :
    iq_P N xs 275 33 [some (iq_r 77), some (iq_i v1), some (iq_i v2), some (iq_i v3)] [] g l Q := iq_w_ok (cuts := [33]) 19 33 _ _ _ _ H

-- ScaleForge$Walk.apart(II)I at 0
set_option maxRecDepth 20000 in
theorem B276_35 {N : Nat} {xs : Nat → Int32} {Q : iq_T} (a0 : Int) (a1 : Int) (g : iq_I) (l : iq_J) (H : (-2147483648 ≤ a0 ∧ a0 ≤ 2147483647) ∧
    (a0 < (0 : Int) → (iq_P N xs 95 0 [some (iq_i 0), some (iq_i ((g 35 4) - 0))] [] g l (fun r g1 l2 => ∃ z3, r = some (iq_i z3) ∧ (Q (some (iq_i z3)) g1 l2)))) ∧
    ((0 : Int) ≤ a0 → ((-2147483648 ≤ a0 ∧ a0 ≤ 2147483647) ∧
      ((7 : Int) ≤ a0 → (iq_P N xs 95 0 [some (iq_i 0), some (iq_i ((g 35 4) - 0))] [] g l (fun r g4 l5 => ∃ z6, r = some (iq_i z6) ∧ (Q (some (iq_i z6)) g4 l5)))) ∧
      (a0 < (7 : Int) → ((-2147483648 ≤ a1 ∧ a1 ≤ 2147483647) ∧
        (a1 < (0 : Int) → (iq_P N xs 95 0 [some (iq_i 0), some (iq_i ((g 35 4) - 0))] [] g l (fun r g7 l8 => ∃ z9, r = some (iq_i z9) ∧ (Q (some (iq_i z9)) g7 l8)))) ∧
        ((0 : Int) ≤ a1 → ((-2147483648 ≤ a1 ∧ a1 ≤ 2147483647) ∧
          ((7 : Int) ≤ a1 → (iq_P N xs 95 0 [some (iq_i 0), some (iq_i ((g 35 4) - 0))] [] g l (fun r g10 l11 => ∃ z12, r = some (iq_i z12) ∧ (Q (some (iq_i z12)) g10 l11)))) ∧
          (a1 < (7 : Int) → ((0 ≤ a0 ∧ a0 < 7) ∧ ((0 ≤ a1 ∧ a1 < 7) ∧ (iq_P N xs 239 0 [some (iq_i ((g 36 a0) - (g 36 a1)))] [] g l (fun r g13 l14 => ∃ z15, r = some (iq_i z15) ∧ (iq_P N xs 95 0 [some (iq_i z15), some (iq_i ((g13 35 4) - z15))] [] g13 l14 (fun r g16 l17 => ∃ z18, r = some (iq_i z18) ∧ (Q (some (iq_i z18)) g16 l17))))))))))))))) :
    iq_P N xs 276 0 [some (iq_r 35), some (iq_i a0), some (iq_i a1), none, none] [] g l Q := iq_w_ok (cuts := []) 34 0 _ _ _ _ H

-- ScaleForge$Walk.getToGo(II)I at 0
set_option maxRecDepth 20000 in
theorem B277_35 {N : Nat} {xs : Nat → Int32} {Q : iq_T} (a0 : Int) (a1 : Int) (g : iq_I) (l : iq_J) (H : (-2147483648 ≤ ((a0 * 7) + a1) ∧ ((a0 * 7) + a1) ≤ 2147483647) ∧
    (((a0 * 7) + a1) < (0 : Int) → (Q (some (iq_i 0)) g l)) ∧
    ((0 : Int) ≤ ((a0 * 7) + a1) → ((-2147483648 ≤ ((a0 * 7) + a1) ∧ ((a0 * 7) + a1) ≤ 2147483647) ∧
      ((896 : Int) ≤ ((a0 * 7) + a1) → (Q (some (iq_i 0)) g l)) ∧
      (((a0 * 7) + a1) < (896 : Int) → ((0 ≤ ((a0 * 7) + a1) ∧ ((a0 * 7) + a1) < 896) ∧ (Q (some (iq_i (g 38 ((a0 * 7) + a1)))) g l)))))) :
    iq_P N xs 277 0 [some (iq_r 35), some (iq_i a0), some (iq_i a1), none] [] g l Q := iq_w_ok (cuts := []) 19 0 _ _ _ _ H

-- ScaleForge$Walk.farBy(III)I at 0
set_option maxRecDepth 20000 in
theorem B278_35 {N : Nat} {xs : Nat → Int32} {Q : iq_T} (a0 : Int) (a1 : Int) (a2 : Int) (g : iq_I) (l : iq_J) (H : iq_P N xs 276 0 [some (iq_r 35), some (iq_i a1), some (iq_i a2), none, none] [] g l (fun r g1 l2 => ∃ z3, r = some (iq_i z3) ∧ (iq_P N xs 277 0 [some (iq_r 35), some (iq_i (iq_or a0 (iq_shl 1 a2))), some (iq_i a2), none] [] g1 l2 (fun r g4 l5 => ∃ z6, r = some (iq_i z6) ∧ (Q (some (iq_i (z3 + z6))) g4 l5))))) :
    iq_P N xs 278 0 [some (iq_r 35), some (iq_i a0), some (iq_i a1), some (iq_i a2)] [] g l Q := iq_w_ok (cuts := []) 14 0 _ _ _ _ H

-- ScaleForge$Walk.fewestFrom(II)I at 0
set_option maxRecDepth 20000 in
theorem B279_35 {N : Nat} {xs : Nat → Int32} {Q : iq_T} (a0 : Int) (a1 : Int) (g : iq_I) (l : iq_J) (H : iq_P N xs 279 5 [some (iq_r 35), some (iq_i a0), some (iq_i a1), some (iq_i (-1)), some (iq_i 0), none] [] g l Q) :
    iq_P N xs 279 0 [some (iq_r 35), some (iq_i a0), some (iq_i a1), none, none, none] [] g l Q := iq_w_ok (cuts := [5]) 4 0 _ _ _ _ H

-- ScaleForge$Walk.fewestFrom(II)I at 5
set_option maxRecDepth 20000 in
theorem B279_p5_35 {N : Nat} {xs : Nat → Int32} {Q : iq_T} (v1 : Int) (v2 : Int) (v3 : Int) (v4 : Int) (d5 : Option iq_V) (g : iq_I) (l : iq_J) (H : (-2147483648 ≤ v4 ∧ v4 ≤ 2147483647 ∧ -2147483648 ≤ (g 35 3) ∧ (g 35 3) ≤ 2147483647) ∧
    ((g 35 3) ≤ v4 → ((-2147483648 ≤ v3 ∧ v3 ≤ 2147483647) ∧
      (¬ v3 = (-1 : Int) → (Q (some (iq_i v3)) g l)) ∧
      (v3 = (-1 : Int) → (Q (some (iq_i 0)) g l)))) ∧
    (v4 < (g 35 3) → (iq_P N xs 74 0 [some (iq_l (iq_i2l v1)), none, some (iq_i v4)] [] g l (fun r g1 l2 => ∃ z3, r = some (iq_i z3) ∧ ((-2147483648 ≤ z3 ∧ z3 ≤ 2147483647) ∧
        (¬ z3 = (0 : Int) → (iq_P N xs 279 5 [some (iq_r 35), some (iq_i v1), some (iq_i v2), some (iq_i v3), some (iq_i (v4 + 1)), (iq_nv d5)] [] g1 l2 Q)) ∧
        (z3 = (0 : Int) → (iq_P N xs 278 0 [some (iq_r 35), some (iq_i v1), some (iq_i v2), some (iq_i v4)] [] g1 l2 (fun r g4 l5 => ∃ z6, r = some (iq_i z6) ∧ ((-2147483648 ≤ v3 ∧ v3 ≤ 2147483647) ∧
            (¬ v3 = (-1 : Int) → (iq_P N xs 95 0 [some (iq_i v3), some (iq_i z6)] [] g4 l5 (fun r g7 l8 => ∃ z9, r = some (iq_i z9) ∧ (iq_P N xs 279 5 [some (iq_r 35), some (iq_i v1), some (iq_i v2), some (iq_i z9), some (iq_i (v4 + 1)), some (iq_i z6)] [] g7 l8 Q)))) ∧
            (v3 = (-1 : Int) → (iq_P N xs 279 5 [some (iq_r 35), some (iq_i v1), some (iq_i v2), some (iq_i z6), some (iq_i (v4 + 1)), some (iq_i z6)] [] g4 l5 Q))))))))))) :
    iq_P N xs 279 5 [some (iq_r 35), some (iq_i v1), some (iq_i v2), some (iq_i v3), some (iq_i v4), d5] [] g l Q := iq_w_ok (cuts := [5]) 24 5 _ _ _ _ H

-- ScaleForge$Walk.setToGo(III)V at 0
set_option maxRecDepth 20000 in
theorem B280_35 {N : Nat} {xs : Nat → Int32} {Q : iq_T} (a0 : Int) (a1 : Int) (a2 : Int) (g : iq_I) (l : iq_J) (H : (-2147483648 ≤ ((a0 * 7) + a1) ∧ ((a0 * 7) + a1) ≤ 2147483647) ∧
    (((a0 * 7) + a1) < (0 : Int) → (Q (none) g l)) ∧
    ((0 : Int) ≤ ((a0 * 7) + a1) → ((-2147483648 ≤ ((a0 * 7) + a1) ∧ ((a0 * 7) + a1) ≤ 2147483647) ∧
      ((896 : Int) ≤ ((a0 * 7) + a1) → (Q (none) g l)) ∧
      (((a0 * 7) + a1) < (896 : Int) → ((0 ≤ ((a0 * 7) + a1) ∧ ((a0 * 7) + a1) < 896) ∧ (Q (none) (iq_uz g 38 ((a0 * 7) + a1) a2) l)))))) :
    iq_P N xs 280 0 [some (iq_r 35), some (iq_i a0), some (iq_i a1), some (iq_i a2), none] [] g l Q := iq_w_ok (cuts := []) 19 0 _ _ _ _ H

-- ScaleForge$Walk.putInOrder()V at 0
set_option maxRecDepth 20000 in
theorem B281_35 {N : Nat} {xs : Nat → Int32} {Q : iq_T} (g : iq_I) (l : iq_J) (H : iq_P N xs 281 18 [some (iq_r 35), some (iq_i 1), some (iq_i 0), some (iq_i 1), none] [] (iq_uz g 37 0 (g 36 0)) l Q) :
    iq_P N xs 281 0 [some (iq_r 35), none, none, none, none] [] g l Q := iq_w_ok (cuts := [18, 29, 93]) 14 0 _ _ _ _ H

-- ScaleForge$Walk.putInOrder()V at 18
set_option maxRecDepth 20000 in
theorem B281_p18_35 {N : Nat} {xs : Nat → Int32} {Q : iq_T} (v1 : Int) (v2 : Int) (v3 : Int) (d4 : Option iq_V) (g : iq_I) (l : iq_J) (H : (-2147483648 ≤ v3 ∧ v3 ≤ 2147483647 ∧ -2147483648 ≤ (g 35 3) ∧ (g 35 3) ≤ 2147483647) ∧
    ((g 35 3) ≤ v3 → (Q (none) g l)) ∧
    (v3 < (g 35 3) → (iq_P N xs 281 29 [some (iq_r 35), some (iq_i v1), some (iq_i v2), some (iq_i v3), some (iq_i 0)] [] g l Q))) :
    iq_P N xs 281 18 [some (iq_r 35), some (iq_i v1), some (iq_i v2), some (iq_i v3), d4] [] g l Q := iq_w_ok (cuts := [18, 29, 93]) 6 18 _ _ _ _ H

-- ScaleForge$Walk.putInOrder()V at 29
set_option maxRecDepth 20000 in
theorem B281_p29_35 {N : Nat} {xs : Nat → Int32} {Q : iq_T} (v1 : Int) (v2 : Int) (v3 : Int) (v4 : Int) (g : iq_I) (l : iq_J) (H : (-2147483648 ≤ v4 ∧ v4 ≤ 2147483647 ∧ -2147483648 ≤ ((g 35 3) - 1) ∧ ((g 35 3) - 1) ≤ 2147483647) ∧
    (((g 35 3) - 1) ≤ v4 → ((0 ≤ v4 ∧ v4 < 7) ∧ ((0 ≤ v3 ∧ v3 < 7) ∧ (iq_P N xs 281 93 [some (iq_r 35), some (iq_i (iq_or v1 (iq_shl 1 v4))), some (iq_i v2), some (iq_i v3), some (iq_i v4)] [] (iq_uz g 37 v3 (g 36 v4)) l Q)))) ∧
    (v4 < ((g 35 3) - 1) → (iq_P N xs 74 0 [some (iq_l (iq_i2l v1)), none, some (iq_i v4)] [] g l (fun r g1 l2 => ∃ z3, r = some (iq_i z3) ∧ ((-2147483648 ≤ z3 ∧ z3 ≤ 2147483647) ∧
        (¬ z3 = (0 : Int) → (iq_P N xs 281 29 [some (iq_r 35), some (iq_i v1), some (iq_i v2), some (iq_i v3), some (iq_i (v4 + 1))] [] g1 l2 Q)) ∧
        (z3 = (0 : Int) → (iq_P N xs 278 0 [some (iq_r 35), some (iq_i v1), some (iq_i v2), some (iq_i v4)] [] g1 l2 (fun r g4 l5 => ∃ z6, r = some (iq_i z6) ∧ (iq_P N xs 277 0 [some (iq_r 35), some (iq_i v1), some (iq_i v2), none] [] g4 l5 (fun r g7 l8 => ∃ z9, r = some (iq_i z9) ∧ ((-2147483648 ≤ z6 ∧ z6 ≤ 2147483647 ∧ -2147483648 ≤ z9 ∧ z9 ≤ 2147483647) ∧
              (z6 = z9 → ((0 ≤ v4 ∧ v4 < 7) ∧ ((0 ≤ v3 ∧ v3 < 7) ∧ (iq_P N xs 281 93 [some (iq_r 35), some (iq_i (iq_or v1 (iq_shl 1 v4))), some (iq_i v2), some (iq_i v3), some (iq_i v4)] [] (iq_uz g7 37 v3 (g7 36 v4)) l8 Q)))) ∧
              (¬ z6 = z9 → (iq_P N xs 281 29 [some (iq_r 35), some (iq_i v1), some (iq_i v2), some (iq_i v3), some (iq_i (v4 + 1))] [] g7 l8 Q))))))))))))) :
    iq_P N xs 281 29 [some (iq_r 35), some (iq_i v1), some (iq_i v2), some (iq_i v3), some (iq_i v4)] [] g l Q := iq_w_ok (cuts := [18, 29, 93]) 35 29 _ _ _ _ H

-- ScaleForge$Walk.putInOrder()V at 93
set_option maxRecDepth 20000 in
theorem B281_p93_35 {N : Nat} {xs : Nat → Int32} {Q : iq_T} (v1 : Int) (v2 : Int) (v3 : Int) (v4 : Int) (g : iq_I) (l : iq_J) (H : iq_P N xs 281 18 [some (iq_r 35), some (iq_i v1), some (iq_i v4), some (iq_i (v3 + 1)), some (iq_i v4)] [] g l Q) :
    iq_P N xs 281 93 [some (iq_r 35), some (iq_i v1), some (iq_i v2), some (iq_i v3), some (iq_i v4)] [] g l Q := iq_w_ok (cuts := [18, 29, 93]) 4 93 _ _ _ _ H

-- ScaleForge$Walk.lay(JI)V at 0
set_option maxRecDepth 20000 in
theorem B282_35 {N : Nat} {xs : Nat → Int32} {Q : iq_T} (a0 : Int64) (a1 : Int) (g : iq_I) (l : iq_J) (H : iq_P N xs 282 13 [some (iq_r 35), some (iq_l a0), none, some (iq_i a1), some (iq_i 0), none] [] (iq_uz (iq_uz g 35 4 a1) 35 3 0) l Q) :
    iq_P N xs 282 0 [some (iq_r 35), some (iq_l a0), none, some (iq_i a1), none, none] [] g l Q := iq_w_ok (cuts := [13, 74, 82]) 8 0 _ _ _ _ H

-- ScaleForge$Walk.lay(JI)V at 13
set_option maxRecDepth 20000 in
theorem B282_p13_35 {N : Nat} {xs : Nat → Int32} {Q : iq_T} (v1 : Int64) (v3 : Int) (v4 : Int) (g : iq_I) (l : iq_J) (H : (-2147483648 ≤ v4 ∧ v4 ≤ 2147483647 ∧ -2147483648 ≤ v3 ∧ v3 ≤ 2147483647) ∧
    (v3 ≤ v4 → (iq_P N xs 282 74 [some (iq_r 35), some (iq_l v1), none, some (iq_i v3), some (iq_i ((iq_shl 1 (g 35 3)) - 1)), none] [] g l Q)) ∧
    (v4 < v3 → ((-2147483648 ≤ (g 35 3) ∧ (g 35 3) ≤ 2147483647) ∧
      ((7 : Int) ≤ (g 35 3) → (iq_P N xs 282 74 [some (iq_r 35), some (iq_l v1), none, some (iq_i v3), some (iq_i ((iq_shl 1 (g 35 3)) - 1)), none] [] g l Q)) ∧
      ((g 35 3) < (7 : Int) → (iq_P N xs 74 0 [some (iq_l v1), none, some (iq_i v4)] [] g l (fun r g1 l2 => ∃ z3, r = some (iq_i z3) ∧ ((-2147483648 ≤ z3 ∧ z3 ≤ 2147483647) ∧
          (z3 = (0 : Int) → (iq_P N xs 282 13 [some (iq_r 35), some (iq_l v1), none, some (iq_i v3), some (iq_i (v4 + 1)), none] [] g1 l2 Q)) ∧
          (¬ z3 = (0 : Int) → ((0 ≤ (g1 35 3) ∧ (g1 35 3) < 7) ∧ (iq_P N xs 282 13 [some (iq_r 35), some (iq_l v1), none, some (iq_i v3), some (iq_i (v4 + 1)), none] [] (iq_uz (iq_uz g1 36 (g1 35 3) v4) 35 3 ((g1 35 3) + 1)) l2 Q)))))))))) :
    iq_P N xs 282 13 [some (iq_r 35), some (iq_l v1), none, some (iq_i v3), some (iq_i v4), none] [] g l Q := iq_w_ok (cuts := [13, 74, 82]) 25 13 _ _ _ _ H

-- ScaleForge$Walk.lay(JI)V at 74
set_option maxRecDepth 20000 in
theorem B282_p74_35 {N : Nat} {xs : Nat → Int32} {Q : iq_T} (v1 : Int64) (v3 : Int) (v4 : Int) (d5 : Option iq_V) (g : iq_I) (l : iq_J) (H : (-2147483648 ≤ v4 ∧ v4 ≤ 2147483647) ∧
    (v4 ≤ (0 : Int) → (iq_P N xs 281 0 [some (iq_r 35), none, none, none, none] [] g l (fun r g1 l2 => r = none ∧ (Q (none) g1 l2)))) ∧
    ((0 : Int) < v4 → (iq_P N xs 282 82 [some (iq_r 35), some (iq_l v1), none, some (iq_i v3), some (iq_i v4), some (iq_i 0)] [] g l Q))) :
    iq_P N xs 282 74 [some (iq_r 35), some (iq_l v1), none, some (iq_i v3), some (iq_i v4), d5] [] g l Q := iq_w_ok (cuts := [13, 74, 82]) 5 74 _ _ _ _ H

-- ScaleForge$Walk.lay(JI)V at 82
set_option maxRecDepth 20000 in
theorem B282_p82_35 {N : Nat} {xs : Nat → Int32} {Q : iq_T} (v1 : Int64) (v3 : Int) (v4 : Int) (v5 : Int) (g : iq_I) (l : iq_J) (H : (-2147483648 ≤ v5 ∧ v5 ≤ 2147483647 ∧ -2147483648 ≤ (g 35 3) ∧ (g 35 3) ≤ 2147483647) ∧
    ((g 35 3) ≤ v5 → (iq_P N xs 282 74 [some (iq_r 35), some (iq_l v1), none, some (iq_i v3), some (iq_i (v4 + (-1))), some (iq_i v5)] [] g l Q)) ∧
    (v5 < (g 35 3) → (iq_P N xs 279 0 [some (iq_r 35), some (iq_i v4), some (iq_i v5), none, none, none] [] g l (fun r g1 l2 => ∃ z3, r = some (iq_i z3) ∧ (iq_P N xs 280 0 [some (iq_r 35), some (iq_i v4), some (iq_i v5), some (iq_i z3), none] [] g1 l2 (fun r g4 l5 => r = none ∧ (iq_P N xs 282 82 [some (iq_r 35), some (iq_l v1), none, some (iq_i v3), some (iq_i v4), some (iq_i (v5 + 1))] [] g4 l5 Q))))))) :
    iq_P N xs 282 82 [some (iq_r 35), some (iq_l v1), none, some (iq_i v3), some (iq_i v4), some (iq_i v5)] [] g l Q := iq_w_ok (cuts := [13, 74, 82]) 14 82 _ _ _ _ H

-- ScaleForge$Walk.length()I at 0
set_option maxRecDepth 20000 in
theorem B283_35 {N : Nat} {xs : Nat → Int32} {Q : iq_T} (g : iq_I) (l : iq_J) (H : (-2147483648 ≤ (g 35 3) ∧ (g 35 3) ≤ 2147483647) ∧
    ((2 : Int) ≤ (g 35 3) → (iq_P N xs 277 0 [some (iq_r 35), some (iq_i 1), some (iq_i 0), none] [] g l (fun r g1 l2 => ∃ z3, r = some (iq_i z3) ∧ (Q (some (iq_i z3)) g1 l2)))) ∧
    ((g 35 3) < (2 : Int) → (Q (some (iq_i 0)) g l))) :
    iq_P N xs 283 0 [some (iq_r 35)] [] g l Q := iq_w_ok (cuts := []) 9 0 _ _ _ _ H

-- ScaleForge.way()I at 0
set_option maxRecDepth 20000 in
theorem B284_0 {N : Nat} {xs : Nat → Int32} {Q : iq_T} (g : iq_I) (l : iq_J) (H : iq_P N xs 88 0 [some (iq_l (l 23 3)), none] [] g l (fun r g1 l2 => ∃ z3, r = some (iq_i z3) ∧ ((-2147483648 ≤ z3 ∧ z3 ≤ 2147483647) ∧
      (z3 ≤ (7 : Int) → (iq_P N xs 80 0 [some (iq_r 23)] [] g1 l2 (fun r g4 l5 => ∃ z6, r = some (iq_i z6) ∧ (iq_P N xs 282 0 [some (iq_r 35), some (iq_l (l2 23 3)), none, some (iq_i z6), none, none] [] g4 l5 (fun r g7 l8 => r = none ∧ (iq_P N xs 283 0 [some (iq_r 35)] [] g7 l8 (fun r g9 l10 => ∃ z11, r = some (iq_i z11) ∧ (iq_P N xs 90 0 [some (iq_r 0), some (iq_i z11)] [] g9 l10 (fun r g12 l13 => ∃ z14, r = some (iq_i z14) ∧ (Q (some (iq_i z14)) g12 l13)))))))))) ∧
      ((7 : Int) < z3 → (iq_P N xs 44 0 [some (iq_r 0), some (iq_i 7)] [] g1 l2 (fun r g15 l16 => ∃ z17, r = some (iq_i z17) ∧ (Q (some (iq_i z17)) g15 l16))))))) :
    iq_P N xs 284 0 [some (iq_r 0)] [] g l Q := iq_w_ok (cuts := []) 21 0 _ _ _ _ H

-- ScaleForgeModel.arrives()V at 0
set_option maxRecDepth 20000 in
theorem B285_77 {N : Nat} {xs : Nat → Int32} {Q : iq_T} (g : iq_I) (l : iq_J) (H : (-2147483648 ≤ (g 77 36) ∧ (g 77 36) ≤ 2147483647) ∧
    ((g 77 36) = (-1 : Int) → ((0 ≤ (g 77 35) ∧ (g 77 35) < 8) ∧ (iq_P N xs 285 40 [some (iq_r 77), some (iq_i 0)] [] (iq_uz g 77 36 (g 92 (g 77 35))) l Q))) ∧
    (¬ (g 77 36) = (-1 : Int) → ((0 ≤ (g 77 35) ∧ (g 77 35) < 8) ∧ ((-2147483648 ≤ (g 92 (g 77 35)) ∧ (g 92 (g 77 35)) ≤ 2147483647 ∧ -2147483648 ≤ (g 77 36) ∧ (g 77 36) ≤ 2147483647) ∧
      ((g 92 (g 77 35)) < (g 77 36) → ((0 ≤ (g 77 35) ∧ (g 77 35) < 8) ∧ (iq_P N xs 285 40 [some (iq_r 77), some (iq_i 0)] [] (iq_uz g 77 36 (g 92 (g 77 35))) l Q))) ∧
      ((g 77 36) ≤ (g 92 (g 77 35)) → (Q (none) g l)))))) :
    iq_P N xs 285 0 [some (iq_r 77), none] [] g l Q := iq_w_ok (cuts := [40]) 21 0 _ _ _ _ H

-- ScaleForgeModel.arrives()V at 40
set_option maxRecDepth 20000 in
theorem B285_p40_77 {N : Nat} {xs : Nat → Int32} {Q : iq_T} (v1 : Int) (g : iq_I) (l : iq_J) (H : (-2147483648 ≤ v1 ∧ v1 ≤ 2147483647 ∧ -2147483648 ≤ (g 77 35) ∧ (g 77 35) ≤ 2147483647) ∧
    ((g 77 35) ≤ v1 → (Q (none) g l)) ∧
    (v1 < (g 77 35) → ((0 ≤ v1 ∧ v1 < 8) ∧ ((0 ≤ (g 91 v1) ∧ (g 91 v1) < 7) ∧ ((0 ≤ v1 ∧ v1 < 7) ∧ (iq_P N xs 285 40 [some (iq_r 77), some (iq_i (v1 + 1))] [] (iq_uz g 93 v1 (g 90 (g 91 v1))) l Q)))))) :
    iq_P N xs 285 40 [some (iq_r 77), some (iq_i v1)] [] g l Q := iq_w_ok (cuts := [40]) 17 40 _ _ _ _ H

-- ScaleForgeModel.apart(II)I at 0
set_option maxRecDepth 20000 in
theorem B286_77 {N : Nat} {xs : Nat → Int32} {Q : iq_T} (a0 : Int) (a1 : Int) (g : iq_I) (l : iq_J) (H : iq_P N xs 111 0 [some (iq_i (a0 - a1)), some (iq_i (g 78 1)), none] [] g l (fun r g1 l2 => ∃ z3, r = some (iq_i z3) ∧ (iq_P N xs 111 0 [some (iq_i (a1 - a0)), some (iq_i (g1 78 1)), none] [] g1 l2 (fun r g4 l5 => ∃ z6, r = some (iq_i z6) ∧ (iq_P N xs 95 0 [some (iq_i z3), some (iq_i z6)] [] g4 l5 (fun r g7 l8 => ∃ z9, r = some (iq_i z9) ∧ (Q (some (iq_i z9)) g7 l8))))))) :
    iq_P N xs 286 0 [some (iq_r 77), some (iq_i a0), some (iq_i a1)] [] g l Q := iq_w_ok (cuts := []) 18 0 _ _ _ _ H

-- ScaleForgeModel.laysWay()Z at 0
set_option maxRecDepth 20000 in
theorem B287_77 {N : Nat} {xs : Nat → Int32} {Q : iq_T} (g : iq_I) (l : iq_J) (H : iq_P N xs 144 0 [some (iq_r 77), none, none] [] (iq_uz (iq_uz g 77 35 0) 77 36 (-1)) l (fun r g1 l2 => ∃ z3, r = some (iq_i z3) ∧ ((-2147483648 ≤ z3 ∧ z3 ≤ 2147483647) ∧
      (z3 ≤ (7 : Int) → (iq_P N xs 287 23 [some (iq_r 77), some (iq_i 0), none, none] [] g1 l2 Q)) ∧
      ((7 : Int) < z3 → (Q (some (iq_i 0)) g1 l2))))) :
    iq_P N xs 287 0 [some (iq_r 77), none, none, none] [] g l Q := iq_w_ok (cuts := [23, 113, 178, 266]) 12 0 _ _ _ _ H

-- ScaleForgeModel.laysWay()Z at 23
set_option maxRecDepth 20000 in
theorem B287_p23_77 {N : Nat} {xs : Nat → Int32} {Q : iq_T} (v1 : Int) (g : iq_I) (l : iq_J) (H : (-2147483648 ≤ v1 ∧ v1 ≤ 2147483647) ∧
    ((60 : Int) ≤ v1 → ((-2147483648 ≤ (g 77 35) ∧ (g 77 35) ≤ 2147483647) ∧
      ((2 : Int) ≤ (g 77 35) → (iq_P N xs 287 113 [some (iq_r 77), some (iq_i 1), some (iq_i 1), none] [] (iq_uz (iq_uz (iq_uz g 91 0 0) 91 1 0) 92 1 0) l Q)) ∧
      ((g 77 35) < (2 : Int) → ((0 ≤ (g 77 35) ∧ (g 77 35) < 8) ∧ (iq_P N xs 285 0 [some (iq_r 77), none] [] (iq_uz (iq_uz (iq_uz (iq_uz g 91 0 0) 91 1 0) 92 1 0) 92 (g 77 35) 0) l (fun r g1 l2 => r = none ∧ (iq_P N xs 287 113 [some (iq_r 77), some (iq_i 1), some (iq_i 1), none] [] g1 l2 Q))))))) ∧
    (v1 < (60 : Int) → (iq_P N xs 143 0 [some (iq_r 77), some (iq_i v1)] [] g l (fun r g3 l4 => ∃ z5, r = some (iq_i z5) ∧ ((-2147483648 ≤ z5 ∧ z5 ≤ 2147483647) ∧
        (¬ z5 = (0 : Int) → ((0 ≤ (g3 77 35) ∧ (g3 77 35) < 7) ∧ (iq_P N xs 287 23 [some (iq_r 77), some (iq_i (v1 + 1)), none, none] [] (iq_uz (iq_uz g3 90 (g3 77 35) v1) 77 35 ((g3 77 35) + 1)) l4 Q))) ∧
        (z5 = (0 : Int) → (iq_P N xs 287 23 [some (iq_r 77), some (iq_i (v1 + 1)), none, none] [] g3 l4 Q))))))) :
    iq_P N xs 287 23 [some (iq_r 77), some (iq_i v1), none, none] [] g l Q := iq_w_ok (cuts := [23, 113, 178, 266]) 34 23 _ _ _ _ H

-- ScaleForgeModel.laysWay()Z at 113
set_option maxRecDepth 20000 in
theorem B287_p113_77 {N : Nat} {xs : Nat → Int32} {Q : iq_T} (v1 : Int) (v2 : Int) (d3 : Option iq_V) (g : iq_I) (l : iq_J) (H : (-2147483648 ≤ v1 ∧ v1 ≤ 2147483647) ∧
    (v1 ≤ (0 : Int) → (Q (some (iq_i 1)) g l)) ∧
    ((0 : Int) < v1 → ((-2147483648 ≤ (g 77 35) ∧ (g 77 35) ≤ 2147483647) ∧
      ((g 77 35) ≤ (1 : Int) → (Q (some (iq_i 1)) g l)) ∧
      ((1 : Int) < (g 77 35) → ((-2147483648 ≤ v1 ∧ v1 ≤ 2147483647 ∧ -2147483648 ≤ (g 77 35) ∧ (g 77 35) ≤ 2147483647) ∧
        (¬ v1 = (g 77 35) → ((0 ≤ v1 ∧ v1 < 8) ∧ ((-2147483648 ≤ (g 91 v1) ∧ (g 91 v1) ≤ 2147483647) ∧
          (¬ (g 91 v1) = (0 : Int) → ((0 ≤ v1 ∧ v1 < 8) ∧ ((0 ≤ v1 ∧ v1 < 8) ∧ (iq_P N xs 287 178 [some (iq_r 77), some (iq_i v1), some (iq_i (iq_and v2 (iq_xor (iq_shl 1 (g 91 v1)) (-1)))), some (iq_i ((g 91 v1) + 1))] [] g l Q)))) ∧
          ((g 91 v1) = (0 : Int) → ((0 ≤ v1 ∧ v1 < 8) ∧ (iq_P N xs 287 178 [some (iq_r 77), some (iq_i v1), some (iq_i (iq_and v2 (iq_xor 0 (-1)))), some (iq_i ((g 91 v1) + 1))] [] g l Q)))))) ∧
        (v1 = (g 77 35) → (iq_P N xs 285 0 [some (iq_r 77), none] [] g l (fun r g1 l2 => r = none ∧ (iq_P N xs 287 113 [some (iq_r 77), some (iq_i (v1 + (-1))), some (iq_i v2), (iq_nv d3)] [] g1 l2 Q))))))))) :
    iq_P N xs 287 113 [some (iq_r 77), some (iq_i v1), some (iq_i v2), d3] [] g l Q := iq_w_ok (cuts := [23, 113, 178, 266]) 33 113 _ _ _ _ H

-- ScaleForgeModel.laysWay()Z at 178
set_option maxRecDepth 20000 in
theorem B287_p178_77 {N : Nat} {xs : Nat → Int32} {Q : iq_T} (v1 : Int) (v2 : Int) (v3 : Int) (g : iq_I) (l : iq_J) (H : (-2147483648 ≤ v3 ∧ v3 ≤ 2147483647 ∧ -2147483648 ≤ (g 77 35) ∧ (g 77 35) ≤ 2147483647) ∧
    ((g 77 35) ≤ v3 → ((-2147483648 ≤ v3 ∧ v3 ≤ 2147483647 ∧ -2147483648 ≤ (g 77 35) ∧ (g 77 35) ≤ 2147483647) ∧
      (¬ v3 = (g 77 35) → ((0 ≤ v1 ∧ v1 < 8) ∧ ((0 ≤ v1 ∧ v1 < 8) ∧ ((0 ≤ (v1 - 1) ∧ (v1 - 1) < 8) ∧ ((0 ≤ ((iq_uz g 91 v1 v3) 91 (v1 - 1)) ∧ ((iq_uz g 91 v1 v3) 91 (v1 - 1)) < 7) ∧ ((0 ≤ v3 ∧ v3 < 7) ∧ (iq_P N xs 286 0 [some (iq_r 77), some (iq_i (g 90 ((iq_uz g 91 v1 v3) 91 (v1 - 1)))), some (iq_i (g 90 v3))] [] (iq_uz g 91 v1 v3) l (fun r g1 l2 => ∃ z3, r = some (iq_i z3) ∧ ((0 ≤ (v1 + 1) ∧ (v1 + 1) < 8) ∧ (iq_P N xs 287 266 [some (iq_r 77), some (iq_i v1), some (iq_i (iq_or v2 (iq_shl 1 v3))), some (iq_i v3)] [] (iq_uz g1 92 (v1 + 1) ((g 92 v1) + z3)) l2 Q)))))))))) ∧
      (v3 = (g 77 35) → (iq_P N xs 287 113 [some (iq_r 77), some (iq_i (v1 + (-1))), some (iq_i v2), some (iq_i v3)] [] g l Q)))) ∧
    (v3 < (g 77 35) → (iq_P N xs 101 0 [some (iq_r 77), some (iq_i v2), some (iq_i v3)] [] g l (fun r g4 l5 => ∃ z6, r = some (iq_i z6) ∧ ((-2147483648 ≤ z6 ∧ z6 ≤ 2147483647) ∧
        (z6 = (0 : Int) → ((-2147483648 ≤ v3 ∧ v3 ≤ 2147483647 ∧ -2147483648 ≤ (g4 77 35) ∧ (g4 77 35) ≤ 2147483647) ∧
          (¬ v3 = (g4 77 35) → ((0 ≤ v1 ∧ v1 < 8) ∧ ((0 ≤ v1 ∧ v1 < 8) ∧ ((0 ≤ (v1 - 1) ∧ (v1 - 1) < 8) ∧ ((0 ≤ ((iq_uz g4 91 v1 v3) 91 (v1 - 1)) ∧ ((iq_uz g4 91 v1 v3) 91 (v1 - 1)) < 7) ∧ ((0 ≤ v3 ∧ v3 < 7) ∧ (iq_P N xs 286 0 [some (iq_r 77), some (iq_i (g4 90 ((iq_uz g4 91 v1 v3) 91 (v1 - 1)))), some (iq_i (g4 90 v3))] [] (iq_uz g4 91 v1 v3) l5 (fun r g7 l8 => ∃ z9, r = some (iq_i z9) ∧ ((0 ≤ (v1 + 1) ∧ (v1 + 1) < 8) ∧ (iq_P N xs 287 266 [some (iq_r 77), some (iq_i v1), some (iq_i (iq_or v2 (iq_shl 1 v3))), some (iq_i v3)] [] (iq_uz g7 92 (v1 + 1) ((g4 92 v1) + z9)) l8 Q)))))))))) ∧
          (v3 = (g4 77 35) → (iq_P N xs 287 113 [some (iq_r 77), some (iq_i (v1 + (-1))), some (iq_i v2), some (iq_i v3)] [] g4 l5 Q)))) ∧
        (¬ z6 = (0 : Int) → (iq_P N xs 287 178 [some (iq_r 77), some (iq_i v1), some (iq_i v2), some (iq_i (v3 + 1))] [] g4 l5 Q))))))) :
    iq_P N xs 287 178 [some (iq_r 77), some (iq_i v1), some (iq_i v2), some (iq_i v3)] [] g l Q := iq_w_ok (cuts := [23, 113, 178, 266]) 50 178 _ _ _ _ H

-- ScaleForgeModel.laysWay()Z at 266
set_option maxRecDepth 20000 in
theorem B287_p266_77 {N : Nat} {xs : Nat → Int32} {Q : iq_T} (v1 : Int) (v2 : Int) (v3 : Int) (g : iq_I) (l : iq_J) (H : (0 ≤ (v1 + 1) ∧ (v1 + 1) < 8) ∧ (iq_P N xs 287 113 [some (iq_r 77), some (iq_i (v1 + 1)), some (iq_i v2), some (iq_i v3)] [] (iq_uz g 91 (v1 + 1) 0) l Q)) :
    iq_P N xs 287 266 [some (iq_r 77), some (iq_i v1), some (iq_i v2), some (iq_i v3)] [] g l Q := iq_w_ok (cuts := [23, 113, 178, 266]) 7 266 _ _ _ _ H

-- ScaleForgeModel.way()I at 0
set_option maxRecDepth 20000 in
theorem B288_77 {N : Nat} {xs : Nat → Int32} {Q : iq_T} (g : iq_I) (l : iq_J) (H : iq_P N xs 287 0 [some (iq_r 77), none, none, none] [] g l (fun r g1 l2 => ∃ z3, r = some (iq_i z3) ∧ ((-2147483648 ≤ z3 ∧ z3 ≤ 2147483647) ∧
      (z3 = (0 : Int) → (iq_P N xs 98 0 [some (iq_r 77), some (iq_i 7)] [] g1 l2 (fun r g4 l5 => ∃ z6, r = some (iq_i z6) ∧ (Q (some (iq_i z6)) g4 l5)))) ∧
      (¬ z3 = (0 : Int) → (iq_P N xs 115 0 [some (iq_r 77), some (iq_i (g1 77 36))] [] g1 l2 (fun r g7 l8 => ∃ z9, r = some (iq_i z9) ∧ (Q (some (iq_i z9)) g7 l8))))))) :
    iq_P N xs 288 0 [some (iq_r 77)] [] g l Q := iq_w_ok (cuts := []) 9 0 _ _ _ _ H

-- ScaleForge$Walk.stopAt(I)I at 0
set_option maxRecDepth 20000 in
theorem B289_35 {N : Nat} {xs : Nat → Int32} {Q : iq_T} (a0 : Int) (g : iq_I) (l : iq_J) (H : (-2147483648 ≤ a0 ∧ a0 ≤ 2147483647) ∧
    (a0 < (0 : Int) → (Q (some (iq_i (-1))) g l)) ∧
    ((0 : Int) ≤ a0 → ((-2147483648 ≤ a0 ∧ a0 ≤ 2147483647 ∧ -2147483648 ≤ (g 35 3) ∧ (g 35 3) ≤ 2147483647) ∧
      ((g 35 3) ≤ a0 → (Q (some (iq_i (-1))) g l)) ∧
      (a0 < (g 35 3) → ((-2147483648 ≤ a0 ∧ a0 ≤ 2147483647) ∧
        ((7 : Int) ≤ a0 → (Q (some (iq_i (-1))) g l)) ∧
        (a0 < (7 : Int) → ((0 ≤ a0 ∧ a0 < 7) ∧ (Q (some (iq_i (g 37 a0))) g l)))))))) :
    iq_P N xs 289 0 [some (iq_r 35), some (iq_i a0)] [] g l Q := iq_w_ok (cuts := []) 17 0 _ _ _ _ H

-- ScaleForge.wayAt(I)I at 0
set_option maxRecDepth 20000 in
theorem B290_0 {N : Nat} {xs : Nat → Int32} {Q : iq_T} (a0 : Int) (g : iq_I) (l : iq_J) (H : iq_P N xs 88 0 [some (iq_l (l 23 3)), none] [] g l (fun r g1 l2 => ∃ z3, r = some (iq_i z3) ∧ ((-2147483648 ≤ z3 ∧ z3 ≤ 2147483647) ∧
      (z3 ≤ (7 : Int) → (iq_P N xs 80 0 [some (iq_r 23)] [] g1 l2 (fun r g4 l5 => ∃ z6, r = some (iq_i z6) ∧ (iq_P N xs 282 0 [some (iq_r 35), some (iq_l (l2 23 3)), none, some (iq_i z6), none, none] [] g4 l5 (fun r g7 l8 => r = none ∧ (iq_P N xs 289 0 [some (iq_r 35), some (iq_i a0)] [] g7 l8 (fun r g9 l10 => ∃ z11, r = some (iq_i z11) ∧ (iq_P N xs 167 0 [some (iq_r 0), some (iq_i z11)] [] g9 l10 (fun r g12 l13 => ∃ z14, r = some (iq_i z14) ∧ (Q (some (iq_i z14)) g12 l13)))))))))) ∧
      ((7 : Int) < z3 → (iq_P N xs 44 0 [some (iq_r 0), some (iq_i 7)] [] g1 l2 (fun r g15 l16 => ∃ z17, r = some (iq_i z17) ∧ (Q (some (iq_i z17)) g15 l16))))))) :
    iq_P N xs 290 0 [some (iq_r 0), some (iq_i a0)] [] g l Q := iq_w_ok (cuts := []) 22 0 _ _ _ _ H

-- ScaleForgeModel.wayAt(I)I at 0
set_option maxRecDepth 20000 in
theorem B291_77 {N : Nat} {xs : Nat → Int32} {Q : iq_T} (a0 : Int) (g : iq_I) (l : iq_J) (H : iq_P N xs 287 0 [some (iq_r 77), none, none, none] [] g l (fun r g1 l2 => ∃ z3, r = some (iq_i z3) ∧ ((-2147483648 ≤ z3 ∧ z3 ≤ 2147483647) ∧
      (¬ z3 = (0 : Int) → ((-2147483648 ≤ a0 ∧ a0 ≤ 2147483647) ∧
        (a0 < (0 : Int) → (iq_P N xs 98 0 [some (iq_r 77), some (iq_i 6)] [] g1 l2 (fun r g4 l5 => ∃ z6, r = some (iq_i z6) ∧ (Q (some (iq_i z6)) g4 l5)))) ∧
        ((0 : Int) ≤ a0 → ((-2147483648 ≤ a0 ∧ a0 ≤ 2147483647 ∧ -2147483648 ≤ (g1 77 35) ∧ (g1 77 35) ≤ 2147483647) ∧
          (a0 < (g1 77 35) → ((0 ≤ a0 ∧ a0 < 7) ∧ (iq_P N xs 115 0 [some (iq_r 77), some (iq_i (g1 93 a0))] [] g1 l2 (fun r g7 l8 => ∃ z9, r = some (iq_i z9) ∧ (Q (some (iq_i z9)) g7 l8))))) ∧
          ((g1 77 35) ≤ a0 → (iq_P N xs 98 0 [some (iq_r 77), some (iq_i 6)] [] g1 l2 (fun r g10 l11 => ∃ z12, r = some (iq_i z12) ∧ (Q (some (iq_i z12)) g10 l11)))))))) ∧
      (z3 = (0 : Int) → (iq_P N xs 98 0 [some (iq_r 77), some (iq_i 7)] [] g1 l2 (fun r g13 l14 => ∃ z15, r = some (iq_i z15) ∧ (Q (some (iq_i z15)) g13 l14))))))) :
    iq_P N xs 291 0 [some (iq_r 77), some (iq_i a0)] [] g l Q := iq_w_ok (cuts := []) 16 0 _ _ _ _ H

-- ScaleForge.pairShapes(LScaleForge$Ring;)I at 0
set_option maxRecDepth 20000 in
theorem B292_31 {N : Nat} {xs : Nat → Int32} {Q : iq_T} (g : iq_I) (l : iq_J) (H : iq_P N xs 292 4 [some (iq_r 31), some (iq_l (0 : Int64)), none, some (iq_i 0), none] [] g l Q) :
    iq_P N xs 292 0 [some (iq_r 31), none, none, none, none] [] g l Q := iq_w_ok (cuts := [4, 17]) 4 0 _ _ _ _ H

-- ScaleForge.pairShapes(LScaleForge$Ring;)I at 4
set_option maxRecDepth 20000 in
theorem B292_p4_31 {N : Nat} {xs : Nat → Int32} {Q : iq_T} (v1 : Int64) (v3 : Int) (d4 : Option iq_V) (g : iq_I) (l : iq_J) (H : (-2147483648 ≤ v3 ∧ v3 ≤ 2147483647 ∧ -2147483648 ≤ (g 31 3) ∧ (g 31 3) ≤ 2147483647) ∧
    ((g 31 3) ≤ v3 → (iq_P N xs 88 0 [some (iq_l v1), none] [] g l (fun r g1 l2 => ∃ z3, r = some (iq_i z3) ∧ (Q (some (iq_i z3)) g1 l2)))) ∧
    (v3 < (g 31 3) → (iq_P N xs 292 17 [some (iq_r 31), some (iq_l v1), none, some (iq_i v3), some (iq_i (v3 + 1))] [] g l Q))) :
    iq_P N xs 292 4 [some (iq_r 31), some (iq_l v1), none, some (iq_i v3), d4] [] g l Q := iq_w_ok (cuts := [4, 17]) 8 4 _ _ _ _ H

-- ScaleForge.pairShapes(LScaleForge$Ring;)I at 17
set_option maxRecDepth 20000 in
theorem B292_p17_31 {N : Nat} {xs : Nat → Int32} {Q : iq_T} (v1 : Int64) (v3 : Int) (v4 : Int) (g : iq_I) (l : iq_J) (H : (-2147483648 ≤ v4 ∧ v4 ≤ 2147483647 ∧ -2147483648 ≤ (g 31 3) ∧ (g 31 3) ≤ 2147483647) ∧
    ((g 31 3) ≤ v4 → (iq_P N xs 292 4 [some (iq_r 31), some (iq_l v1), none, some (iq_i (v3 + 1)), some (iq_i v4)] [] g l Q)) ∧
    (v4 < (g 31 3) → (iq_P N xs 138 0 [some (iq_r 31), some (iq_i v4)] [] g l (fun r g1 l2 => ∃ z3, r = some (iq_i z3) ∧ (iq_P N xs 138 0 [some (iq_r 31), some (iq_i v3)] [] g1 l2 (fun r g4 l5 => ∃ z6, r = some (iq_i z6) ∧ (iq_P N xs 6 0 [some (iq_i (z3 - z6))] [] g4 l5 (fun r g7 l8 => ∃ x9, r = some (iq_l x9) ∧ (iq_P N xs 292 17 [some (iq_r 31), some (iq_l (v1 ||| x9)), none, some (iq_i v3), some (iq_i (v4 + 1))] [] g7 l8 Q))))))))) :
    iq_P N xs 292 17 [some (iq_r 31), some (iq_l v1), none, some (iq_i v3), some (iq_i v4)] [] g l Q := iq_w_ok (cuts := [4, 17]) 17 17 _ _ _ _ H

-- ScaleForge$Ring.farther(II)J at 0
set_option maxRecDepth 20000 in
theorem B293_31 {N : Nat} {xs : Nat → Int32} {Q : iq_T} (a0 : Int) (a1 : Int) (g : iq_I) (l : iq_J) (H : iq_P N xs 293 7 [some (iq_r 31), some (iq_i a0), some (iq_i a1), some (iq_l (0 : Int64)), none, some (iq_i (a1 + 1))] [] g l Q) :
    iq_P N xs 293 0 [some (iq_r 31), some (iq_i a0), some (iq_i a1), none, none, none] [] g l Q := iq_w_ok (cuts := [7]) 6 0 _ _ _ _ H

-- ScaleForge$Ring.farther(II)J at 7
set_option maxRecDepth 20000 in
theorem B293_p7_31 {N : Nat} {xs : Nat → Int32} {Q : iq_T} (v1 : Int) (v2 : Int) (v3 : Int64) (v5 : Int) (g : iq_I) (l : iq_J) (H : (-2147483648 ≤ v5 ∧ v5 ≤ 2147483647 ∧ -2147483648 ≤ (g 31 3) ∧ (g 31 3) ≤ 2147483647) ∧
    ((g 31 3) ≤ v5 → (Q (some (iq_l v3)) g l)) ∧
    (v5 < (g 31 3) → (iq_P N xs 138 0 [some (iq_r 31), some (iq_i v5)] [] g l (fun r g1 l2 => ∃ z3, r = some (iq_i z3) ∧ (iq_P N xs 138 0 [some (iq_r 31), some (iq_i v1)] [] g1 l2 (fun r g4 l5 => ∃ z6, r = some (iq_i z6) ∧ (iq_P N xs 6 0 [some (iq_i (z3 - z6))] [] g4 l5 (fun r g7 l8 => ∃ x9, r = some (iq_l x9) ∧ (iq_P N xs 293 7 [some (iq_r 31), some (iq_i v1), some (iq_i v2), some (iq_l (v3 ||| x9)), none, some (iq_i (v5 + 1))] [] g7 l8 Q))))))))) :
    iq_P N xs 293 7 [some (iq_r 31), some (iq_i v1), some (iq_i v2), some (iq_l v3), none, some (iq_i v5)] [] g l Q := iq_w_ok (cuts := [7]) 17 7 _ _ _ _ H

-- ScaleForge.tripleShapes(LScaleForge$Ring;)I at 0
set_option maxRecDepth 20000 in
theorem B294_0_31 {N : Nat} {xs : Nat → Int32} {Q : iq_T} (g : iq_I) (l : iq_J) (H : iq_P N xs 294 2 [some (iq_r 0), some (iq_r 31), some (iq_i 0), none, none] [] g l Q) :
    iq_P N xs 294 0 [some (iq_r 0), some (iq_r 31), none, none, none] [] g l Q := iq_w_ok (cuts := [2, 26, 38, 106]) 2 0 _ _ _ _ H

-- ScaleForge.tripleShapes(LScaleForge$Ring;)I at 2
set_option maxRecDepth 20000 in
theorem B294_p2_0_31 {N : Nat} {xs : Nat → Int32} {Q : iq_T} (v2 : Int) (g : iq_I) (l : iq_J) (H : (-2147483648 ≤ v2 ∧ v2 ≤ 2147483647) ∧
    ((60 : Int) ≤ v2 → (iq_P N xs 294 26 [some (iq_r 0), some (iq_r 31), some (iq_i 0), none, none] [] g l Q)) ∧
    (v2 < (60 : Int) → ((0 ≤ v2 ∧ v2 < 60) ∧ (iq_P N xs 294 2 [some (iq_r 0), some (iq_r 31), some (iq_i (v2 + 1)), none, none] [] g (iq_uz l 39 v2 (0 : Int64)) Q)))) :
    iq_P N xs 294 2 [some (iq_r 0), some (iq_r 31), some (iq_i v2), none, none] [] g l Q := iq_w_ok (cuts := [2, 26, 38, 106]) 12 2 _ _ _ _ H

-- ScaleForge.tripleShapes(LScaleForge$Ring;)I at 26
set_option maxRecDepth 20000 in
theorem B294_p26_0_31 {N : Nat} {xs : Nat → Int32} {Q : iq_T} (v2 : Int) (d3 : Option iq_V) (d4 : Option iq_V) (g : iq_I) (l : iq_J) (H : (-2147483648 ≤ v2 ∧ v2 ≤ 2147483647 ∧ -2147483648 ≤ (g 31 3) ∧ (g 31 3) ≤ 2147483647) ∧
    ((g 31 3) ≤ v2 → (iq_P N xs 294 106 [some (iq_r 0), some (iq_r 31), some (iq_i 0), some (iq_i 0), (iq_nv d4)] [] g l Q)) ∧
    (v2 < (g 31 3) → (iq_P N xs 294 38 [some (iq_r 0), some (iq_r 31), some (iq_i v2), some (iq_i (v2 + 1)), (iq_nv d4)] [] g l Q))) :
    iq_P N xs 294 26 [some (iq_r 0), some (iq_r 31), some (iq_i v2), d3, d4] [] g l Q := iq_w_ok (cuts := [2, 26, 38, 106]) 8 26 _ _ _ _ H

-- ScaleForge.tripleShapes(LScaleForge$Ring;)I at 38
set_option maxRecDepth 20000 in
theorem B294_p38_0_31 {N : Nat} {xs : Nat → Int32} {Q : iq_T} (v2 : Int) (v3 : Int) (d4 : Option iq_V) (g : iq_I) (l : iq_J) (H : (-2147483648 ≤ v3 ∧ v3 ≤ 2147483647 ∧ -2147483648 ≤ (g 31 3) ∧ (g 31 3) ≤ 2147483647) ∧
    ((g 31 3) ≤ v3 → (iq_P N xs 294 26 [some (iq_r 0), some (iq_r 31), some (iq_i (v2 + 1)), some (iq_i v3), (iq_nv d4)] [] g l Q)) ∧
    (v3 < (g 31 3) → (iq_P N xs 138 0 [some (iq_r 31), some (iq_i v3)] [] g l (fun r g1 l2 => ∃ z3, r = some (iq_i z3) ∧ (iq_P N xs 138 0 [some (iq_r 31), some (iq_i v2)] [] g1 l2 (fun r g4 l5 => ∃ z6, r = some (iq_i z6) ∧ ((-2147483648 ≤ (z3 - z6) ∧ (z3 - z6) ≤ 2147483647) ∧
          ((z3 - z6) ≤ (0 : Int) → (iq_P N xs 294 38 [some (iq_r 0), some (iq_r 31), some (iq_i v2), some (iq_i (v3 + 1)), some (iq_i (z3 - z6))] [] g4 l5 Q)) ∧
          ((0 : Int) < (z3 - z6) → ((-2147483648 ≤ (z3 - z6) ∧ (z3 - z6) ≤ 2147483647) ∧
            ((60 : Int) ≤ (z3 - z6) → (iq_P N xs 294 38 [some (iq_r 0), some (iq_r 31), some (iq_i v2), some (iq_i (v3 + 1)), some (iq_i (z3 - z6))] [] g4 l5 Q)) ∧
            ((z3 - z6) < (60 : Int) → ((0 ≤ (z3 - z6) ∧ (z3 - z6) < 60) ∧ (iq_P N xs 293 0 [some (iq_r 31), some (iq_i v2), some (iq_i v3), none, none, none] [] g4 l5 (fun r g7 l8 => ∃ x9, r = some (iq_l x9) ∧ ((0 ≤ (z3 - z6) ∧ (z3 - z6) < 60) ∧ (iq_P N xs 294 38 [some (iq_r 0), some (iq_r 31), some (iq_i v2), some (iq_i (v3 + 1)), some (iq_i (z3 - z6))] [] g7 (iq_uz l8 39 (z3 - z6) ((l5 39 (z3 - z6)) ||| x9)) Q))))))))))))))) :
    iq_P N xs 294 38 [some (iq_r 0), some (iq_r 31), some (iq_i v2), some (iq_i v3), d4] [] g l Q := iq_w_ok (cuts := [2, 26, 38, 106]) 32 38 _ _ _ _ H

-- ScaleForge.tripleShapes(LScaleForge$Ring;)I at 106
set_option maxRecDepth 20000 in
theorem B294_p106_0_31 {N : Nat} {xs : Nat → Int32} {Q : iq_T} (v2 : Int) (v3 : Int) (d4 : Option iq_V) (g : iq_I) (l : iq_J) (H : (-2147483648 ≤ v3 ∧ v3 ≤ 2147483647) ∧
    ((60 : Int) ≤ v3 → (Q (some (iq_i v2)) g l)) ∧
    (v3 < (60 : Int) → ((0 ≤ v3 ∧ v3 < 60) ∧ (iq_P N xs 88 0 [some (iq_l (l 39 v3)), none] [] g l (fun r g1 l2 => ∃ z3, r = some (iq_i z3) ∧ (iq_P N xs 294 106 [some (iq_r 0), some (iq_r 31), some (iq_i (v2 + z3)), some (iq_i (v3 + 1)), (iq_nv d4)] [] g1 l2 Q)))))) :
    iq_P N xs 294 106 [some (iq_r 0), some (iq_r 31), some (iq_i v2), some (iq_i v3), d4] [] g l Q := iq_w_ok (cuts := [2, 26, 38, 106]) 15 106 _ _ _ _ H

-- ScaleForge.shapes(I)I at 0
set_option maxRecDepth 20000 in
theorem B295_0 {N : Nat} {xs : Nat → Int32} {Q : iq_T} (a0 : Int) (g : iq_I) (l : iq_J) (H : (-2147483648 ≤ a0 ∧ a0 ≤ 2147483647) ∧
    (a0 < (1 : Int) → (iq_P N xs 44 0 [some (iq_r 0), some (iq_i 1)] [] g l (fun r g1 l2 => ∃ z3, r = some (iq_i z3) ∧ (Q (some (iq_i z3)) g1 l2)))) ∧
    ((1 : Int) ≤ a0 → ((-2147483648 ≤ a0 ∧ a0 ≤ 2147483647) ∧
      (a0 ≤ (3 : Int) → ((-2147483648 ≤ a0 ∧ a0 ≤ 2147483647) ∧
        (¬ a0 = (1 : Int) → (iq_P N xs 137 0 [some (iq_r 0)] [] g l (fun r g4 l5 => iq_P N xs 295 31 [some (iq_r 0), some (iq_i a0), none] (r.toList ++ []) g4 l5 Q))) ∧
        (a0 = (1 : Int) → (iq_P N xs 90 0 [some (iq_r 0), some (iq_i 1)] [] g l (fun r g6 l7 => ∃ z8, r = some (iq_i z8) ∧ (Q (some (iq_i z8)) g6 l7)))))) ∧
      ((3 : Int) < a0 → (iq_P N xs 44 0 [some (iq_r 0), some (iq_i 1)] [] g l (fun r g9 l10 => ∃ z11, r = some (iq_i z11) ∧ (Q (some (iq_i z11)) g9 l10))))))) :
    iq_P N xs 295 0 [some (iq_r 0), some (iq_i a0), none] [] g l Q := iq_w_ok (cuts := []) 13 0 _ _ _ _ H

-- ScaleForge.shapes(I)I at 31
set_option maxRecDepth 20000 in
theorem B295_q31_31 {N : Nat} {xs : Nat → Int32} {Q : iq_T} (v1 : Int) (g : iq_I) (l : iq_J) (H : (-2147483648 ≤ v1 ∧ v1 ≤ 2147483647) ∧
    (¬ v1 = (2 : Int) → (iq_P N xs 294 0 [some (iq_r 0), some (iq_r 31), none, none, none] [] g l (fun r g1 l2 => ∃ z3, r = some (iq_i z3) ∧ (iq_P N xs 90 0 [some (iq_r 0), some (iq_i z3)] [] g1 l2 (fun r g4 l5 => ∃ z6, r = some (iq_i z6) ∧ (Q (some (iq_i z6)) g4 l5)))))) ∧
    (v1 = (2 : Int) → (iq_P N xs 292 0 [some (iq_r 31), none, none, none, none] [] g l (fun r g7 l8 => ∃ z9, r = some (iq_i z9) ∧ (iq_P N xs 90 0 [some (iq_r 0), some (iq_i z9)] [] g7 l8 (fun r g10 l11 => ∃ z12, r = some (iq_i z12) ∧ (Q (some (iq_i z12)) g10 l11))))))) :
    iq_P N xs 295 31 [some (iq_r 0), some (iq_i v1), none] [iq_r 31] g l Q := iq_w_ok (cuts := []) 10 31 _ _ _ _ H
