/-! What must hold that a stretch of a method ends well: methods 232 to 273. -/
-- java/lang/Math.floorDiv(II)I at 0
set_option maxRecDepth 20000 in
theorem B232 {N : Nat} {xs : Nat → Int32} {Q : iq_T} (a0 : Int) (a1 : Int) (g : iq_I) (l : iq_J) (H : (-2147483648 < a0 ∧ a0 ≤ 2147483647 ∧ -2147483648 ≤ a1 ∧ a1 ≤ 2147483647 ∧ ¬ a1 = 0) ∧ ((-2147483648 ≤ (iq_xor a0 a1) ∧ (iq_xor a0 a1) ≤ 2147483647) ∧
    ((0 : Int) ≤ (iq_xor a0 a1) → (Q (some (iq_i (Int.tdiv a0 a1))) g l)) ∧
    ((iq_xor a0 a1) < (0 : Int) → ((-2147483648 ≤ ((Int.tdiv a0 a1) * a1) ∧ ((Int.tdiv a0 a1) * a1) ≤ 2147483647 ∧ -2147483648 ≤ a0 ∧ a0 ≤ 2147483647) ∧
      (((Int.tdiv a0 a1) * a1) = a0 → (Q (some (iq_i (Int.tdiv a0 a1))) g l)) ∧
      (¬ ((Int.tdiv a0 a1) * a1) = a0 → (Q (some (iq_i ((Int.tdiv a0 a1) - 1))) g l)))))) :
    iq_P N xs 232 0 [some (iq_i a0), some (iq_i a1), none] [] g l Q := iq_w_ok (cuts := []) 17 0 _ _ _ _ H

-- ScaleForge$Scale.sharpsOf(I)I at 0
set_option maxRecDepth 20000 in
theorem B233_23 {N : Nat} {xs : Nat → Int32} {Q : iq_T} (a0 : Int) (g : iq_I) (l : iq_J) (H : (-2147483648 ≤ (g 24 6) ∧ (g 24 6) ≤ 2147483647) ∧
    ((g 24 6) ≤ (0 : Int) → (Q (some (iq_i 0)) g l)) ∧
    ((0 : Int) < (g 24 6) → (iq_P N xs 232 0 [some (iq_i a0), some (iq_i (g 24 6)), none] [] g l (fun r g1 l2 => ∃ z3, r = some (iq_i z3) ∧ (Q (some (iq_i z3)) g1 l2))))) :
    iq_P N xs 233 0 [some (iq_r 23), some (iq_i a0)] [] g l Q := iq_w_ok (cuts := []) 13 0 _ _ _ _ H

-- ScaleForge.sharps(I)I at 0
set_option maxRecDepth 20000 in
theorem B234_0 {N : Nat} {xs : Nat → Int32} {Q : iq_T} (a0 : Int) (g : iq_I) (l : iq_J) (H : iq_P N xs 146 0 [some (iq_i a0)] [] g l (fun r g1 l2 => ∃ z3, r = some (iq_i z3) ∧ ((-2147483648 ≤ z3 ∧ z3 ≤ 2147483647) ∧
      (z3 = (0 : Int) → (iq_P N xs 233 0 [some (iq_r 23), some (iq_i a0)] [] g1 l2 (fun r g4 l5 => ∃ z6, r = some (iq_i z6) ∧ (iq_P N xs 90 0 [some (iq_r 0), some (iq_i z6)] [] g4 l5 (fun r g7 l8 => ∃ z9, r = some (iq_i z9) ∧ (Q (some (iq_i z9)) g7 l8)))))) ∧
      (¬ z3 = (0 : Int) → (iq_P N xs 44 0 [some (iq_r 0), some (iq_i 1)] [] g1 l2 (fun r g10 l11 => ∃ z12, r = some (iq_i z12) ∧ (Q (some (iq_i z12)) g10 l11))))))) :
    iq_P N xs 234 0 [some (iq_r 0), some (iq_i a0)] [] g l Q := iq_w_ok (cuts := []) 10 0 _ _ _ _ H

-- ScaleForgeModel.sharpsOf(I)I at 0
set_option maxRecDepth 20000 in
theorem B235_77 {N : Nat} {xs : Nat → Int32} {Q : iq_T} (a0 : Int) (g : iq_I) (l : iq_J) (H : iq_P N xs 230 0 [some (iq_r 77), some (iq_i a0)] [] g l (fun r g1 l2 => ∃ z3, r = some (iq_i z3) ∧ ((-2147483648 < (a0 - z3) ∧ (a0 - z3) ≤ 2147483647 ∧ -2147483648 ≤ (g1 78 6) ∧ (g1 78 6) ≤ 2147483647 ∧ ¬ (g1 78 6) = 0) ∧ (Q (some (iq_i (Int.tdiv (a0 - z3) (g1 78 6)))) g1 l2)))) :
    iq_P N xs 235 0 [some (iq_r 77), some (iq_i a0)] [] g l Q := iq_w_ok (cuts := []) 11 0 _ _ _ _ H

-- ScaleForgeModel.sharps(I)I at 0
set_option maxRecDepth 20000 in
theorem B236_77 {N : Nat} {xs : Nat → Int32} {Q : iq_T} (a0 : Int) (g : iq_I) (l : iq_J) (H : iq_P N xs 149 0 [some (iq_l (iq_i2l a0)), none, some (iq_l (Int64.ofNat 18446744073709551556)), none, some (iq_l (Int64.ofNat 60)), none] [] g l (fun r g1 l2 => ∃ z3, r = some (iq_i z3) ∧ ((-2147483648 ≤ z3 ∧ z3 ≤ 2147483647) ∧
      (z3 = (0 : Int) → (iq_P N xs 98 0 [some (iq_r 77), some (iq_i 1)] [] g1 l2 (fun r g4 l5 => ∃ z6, r = some (iq_i z6) ∧ (Q (some (iq_i z6)) g4 l5)))) ∧
      (¬ z3 = (0 : Int) → (iq_P N xs 235 0 [some (iq_r 77), some (iq_i a0)] [] g1 l2 (fun r g7 l8 => ∃ z9, r = some (iq_i z9) ∧ (iq_P N xs 115 0 [some (iq_r 77), some (iq_i z9)] [] g7 l8 (fun r g10 l11 => ∃ z12, r = some (iq_i z12) ∧ (Q (some (iq_i z12)) g10 l11))))))))) :
    iq_P N xs 236 0 [some (iq_r 77), some (iq_i a0)] [] g l Q := iq_w_ok (cuts := []) 13 0 _ _ _ _ H

-- ScaleForge.named(II)I at 0
set_option maxRecDepth 20000 in
theorem B237_0 {N : Nat} {xs : Nat → Int32} {Q : iq_T} (a0 : Int) (a1 : Int) (g : iq_I) (l : iq_J) (H : iq_P N xs 135 0 [some (iq_r 23), some (iq_i 6)] [] g l (fun r g1 l2 => ∃ z3, r = some (iq_i z3) ∧ ((-2147483648 ≤ a0 ∧ a0 ≤ 2147483647) ∧
      (a0 < (0 : Int) → (iq_P N xs 44 0 [some (iq_r 0), some (iq_i 1)] [] g1 l2 (fun r g4 l5 => ∃ z6, r = some (iq_i z6) ∧ (Q (some (iq_i z6)) g4 l5)))) ∧
      ((0 : Int) ≤ a0 → ((-2147483648 ≤ a0 ∧ a0 ≤ 2147483647 ∧ -2147483648 ≤ z3 ∧ z3 ≤ 2147483647) ∧
        (z3 ≤ a0 → (iq_P N xs 44 0 [some (iq_r 0), some (iq_i 1)] [] g1 l2 (fun r g7 l8 => ∃ z9, r = some (iq_i z9) ∧ (Q (some (iq_i z9)) g7 l8)))) ∧
        (a0 < z3 → ((-2147483648 ≤ a1 ∧ a1 ≤ 2147483647) ∧
          (a1 < (-9 : Int) → (iq_P N xs 44 0 [some (iq_r 0), some (iq_i 1)] [] g1 l2 (fun r g10 l11 => ∃ z12, r = some (iq_i z12) ∧ (Q (some (iq_i z12)) g10 l11)))) ∧
          ((-9 : Int) ≤ a1 → ((-2147483648 ≤ a1 ∧ a1 ≤ 2147483647) ∧
            (a1 ≤ (9 : Int) → (iq_P N xs 147 0 [some (iq_r 23), some (iq_i ((a1 * z3) + a0))] [] g1 l2 (fun r g13 l14 => ∃ z15, r = some (iq_i z15) ∧ (iq_P N xs 90 0 [some (iq_r 0), some (iq_i z15)] [] g13 l14 (fun r g16 l17 => ∃ z18, r = some (iq_i z18) ∧ (Q (some (iq_i z18)) g16 l17)))))) ∧
            ((9 : Int) < a1 → (iq_P N xs 44 0 [some (iq_r 0), some (iq_i 1)] [] g1 l2 (fun r g19 l20 => ∃ z21, r = some (iq_i z21) ∧ (Q (some (iq_i z21)) g19 l20))))))))))))) :
    iq_P N xs 237 0 [some (iq_r 0), some (iq_i a0), some (iq_i a1), none] [] g l Q := iq_w_ok (cuts := []) 27 0 _ _ _ _ H

-- ScaleForgeModel.named(II)I at 0
set_option maxRecDepth 20000 in
theorem B238_77 {N : Nat} {xs : Nat → Int32} {Q : iq_T} (a0 : Int) (a1 : Int) (g : iq_I) (l : iq_J) (H : iq_P N xs 149 0 [some (iq_l (iq_i2l a0)), none, some (iq_l (0 : Int64)), none, some (iq_l ((iq_i2l (g 78 6)) - (1 : Int64))), none] [] g l (fun r g1 l2 => ∃ z3, r = some (iq_i z3) ∧ ((-2147483648 ≤ z3 ∧ z3 ≤ 2147483647) ∧
      (z3 = (0 : Int) → (iq_P N xs 98 0 [some (iq_r 77), some (iq_i 1)] [] g1 l2 (fun r g4 l5 => ∃ z6, r = some (iq_i z6) ∧ (Q (some (iq_i z6)) g4 l5)))) ∧
      (¬ z3 = (0 : Int) → (iq_P N xs 149 0 [some (iq_l (iq_i2l a1)), none, some (iq_l (Int64.ofNat 18446744073709551607)), none, some (iq_l (Int64.ofNat 9)), none] [] g1 l2 (fun r g7 l8 => ∃ z9, r = some (iq_i z9) ∧ ((-2147483648 ≤ z9 ∧ z9 ≤ 2147483647) ∧
          (¬ z9 = (0 : Int) → (iq_P N xs 112 0 [some (iq_r 77), some (iq_i ((a1 * (g7 78 6)) + a0)), some (iq_i (g7 78 2))] [] g7 l8 (fun r g10 l11 => ∃ z12, r = some (iq_i z12) ∧ (iq_P N xs 115 0 [some (iq_r 77), some (iq_i z12)] [] g10 l11 (fun r g13 l14 => ∃ z15, r = some (iq_i z15) ∧ (Q (some (iq_i z15)) g13 l14)))))) ∧
          (z9 = (0 : Int) → (iq_P N xs 98 0 [some (iq_r 77), some (iq_i 1)] [] g7 l8 (fun r g16 l17 => ∃ z18, r = some (iq_i z18) ∧ (Q (some (iq_i z18)) g16 l17))))))))))) :
    iq_P N xs 238 0 [some (iq_r 77), some (iq_i a0), some (iq_i a1)] [] g l Q := iq_w_ok (cuts := []) 35 0 _ _ _ _ H

-- java/lang/Math.abs(I)I at 0
set_option maxRecDepth 20000 in
theorem B239 {N : Nat} {xs : Nat → Int32} {Q : iq_T} (a0 : Int) (g : iq_I) (l : iq_J) (H : (-2147483648 ≤ a0 ∧ a0 ≤ 2147483647) ∧
    ((0 : Int) ≤ a0 → (Q (some (iq_i a0)) g l)) ∧
    (a0 < (0 : Int) → (Q (some (iq_i (-a0))) g l))) :
    iq_P N xs 239 0 [some (iq_i a0)] [] g l Q := iq_w_ok (cuts := []) 6 0 _ _ _ _ H

-- ScaleForge.simplest(II)I at 0
set_option maxRecDepth 20000 in
theorem B240_0 {N : Nat} {xs : Nat → Int32} {Q : iq_T} (a0 : Int) (a1 : Int) (g : iq_I) (l : iq_J) (H : iq_P N xs 77 0 [some (iq_r 23), some (iq_i a0)] [] g l (fun r g1 l2 => ∃ z3, r = some (iq_i z3) ∧ ((-2147483648 ≤ z3 ∧ z3 ≤ 2147483647) ∧
      (z3 = (0 : Int) → (iq_P N xs 44 0 [some (iq_r 0), some (iq_i 1)] [] g1 l2 (fun r g4 l5 => ∃ z6, r = some (iq_i z6) ∧ (Q (some (iq_i z6)) g4 l5)))) ∧
      (¬ z3 = (0 : Int) → ((-2147483648 ≤ a1 ∧ a1 ≤ 2147483647) ∧
        (a1 < (0 : Int) → (iq_P N xs 44 0 [some (iq_r 0), some (iq_i 1)] [] g1 l2 (fun r g7 l8 => ∃ z9, r = some (iq_i z9) ∧ (Q (some (iq_i z9)) g7 l8)))) ∧
        ((0 : Int) ≤ a1 → ((-2147483648 ≤ a1 ∧ a1 ≤ 2147483647) ∧
          (a1 ≤ (2 : Int) → (iq_P N xs 240 35 [some (iq_r 0), some (iq_i a0), some (iq_i a1), some (iq_i 0), some (iq_i 0), some (iq_i (-60)), none] [] g1 l2 Q)) ∧
          ((2 : Int) < a1 → (iq_P N xs 44 0 [some (iq_r 0), some (iq_i 1)] [] g1 l2 (fun r g10 l11 => ∃ z12, r = some (iq_i z12) ∧ (Q (some (iq_i z12)) g10 l11))))))))))) :
    iq_P N xs 240 0 [some (iq_r 0), some (iq_i a0), some (iq_i a1), none, none, none, none] [] g l Q := iq_w_ok (cuts := [35]) 16 0 _ _ _ _ H

-- ScaleForge.simplest(II)I at 35
set_option maxRecDepth 20000 in
theorem B240_p35_0 {N : Nat} {xs : Nat → Int32} {Q : iq_T} (v1 : Int) (v2 : Int) (v3 : Int) (v4 : Int) (v5 : Int) (d6 : Option iq_V) (g : iq_I) (l : iq_J) (H : (-2147483648 ≤ v5 ∧ v5 ≤ 2147483647) ∧
    ((60 : Int) < v5 → ((-2147483648 ≤ v3 ∧ v3 ≤ 2147483647) ∧
      (¬ v3 = (0 : Int) → ((-2147483648 ≤ v2 ∧ v2 ≤ 2147483647) ∧
        (¬ v2 = (2 : Int) → ((-2147483648 ≤ v2 ∧ v2 ≤ 2147483647) ∧
          (¬ v2 = (0 : Int) → (iq_P N xs 233 0 [some (iq_r 23), some (iq_i v4)] [] g l (fun r g1 l2 => ∃ z3, r = some (iq_i z3) ∧ (iq_P N xs 90 0 [some (iq_r 0), some (iq_i z3)] [] g1 l2 (fun r g4 l5 => ∃ z6, r = some (iq_i z6) ∧ (Q (some (iq_i z6)) g4 l5)))))) ∧
          (v2 = (0 : Int) → (iq_P N xs 228 0 [some (iq_r 23), some (iq_i v4)] [] g l (fun r g7 l8 => ∃ z9, r = some (iq_i z9) ∧ (iq_P N xs 90 0 [some (iq_r 0), some (iq_i z9)] [] g7 l8 (fun r g10 l11 => ∃ z12, r = some (iq_i z12) ∧ (Q (some (iq_i z12)) g10 l11)))))))) ∧
        (v2 = (2 : Int) → (iq_P N xs 90 0 [some (iq_r 0), some (iq_i v4)] [] g l (fun r g13 l14 => ∃ z15, r = some (iq_i z15) ∧ (Q (some (iq_i z15)) g13 l14)))))) ∧
      (v3 = (0 : Int) → (iq_P N xs 44 0 [some (iq_r 0), some (iq_i 6)] [] g l (fun r g16 l17 => ∃ z18, r = some (iq_i z18) ∧ (Q (some (iq_i z18)) g16 l17)))))) ∧
    (v5 ≤ (60 : Int) → ((-2147483648 ≤ v3 ∧ v3 ≤ 2147483647) ∧
      (v3 = (0 : Int) → (iq_P N xs 147 0 [some (iq_r 23), some (iq_i v5)] [] g l (fun r g19 l20 => ∃ z21, r = some (iq_i z21) ∧ ((-2147483648 ≤ z21 ∧ z21 ≤ 2147483647 ∧ -2147483648 ≤ v1 ∧ v1 ≤ 2147483647) ∧
            (¬ z21 = v1 → (iq_P N xs 240 35 [some (iq_r 0), some (iq_i v1), some (iq_i v2), some (iq_i v3), some (iq_i v4), some (iq_i (v5 + 1)), some (iq_i 1)] [] g19 l20 Q)) ∧
            (z21 = v1 → (iq_P N xs 240 35 [some (iq_r 0), some (iq_i v1), some (iq_i v2), some (iq_i 1), some (iq_i v5), some (iq_i (v5 + 1)), some (iq_i 1)] [] g19 l20 Q)))))) ∧
      (¬ v3 = (0 : Int) → (iq_P N xs 233 0 [some (iq_r 23), some (iq_i v5)] [] g l (fun r g22 l23 => ∃ z24, r = some (iq_i z24) ∧ (iq_P N xs 239 0 [some (iq_i z24)] [] g22 l23 (fun r g25 l26 => ∃ z27, r = some (iq_i z27) ∧ (iq_P N xs 233 0 [some (iq_r 23), some (iq_i v4)] [] g25 l26 (fun r g28 l29 => ∃ z30, r = some (iq_i z30) ∧ (iq_P N xs 239 0 [some (iq_i z30)] [] g28 l29 (fun r g31 l32 => ∃ z33, r = some (iq_i z33) ∧ ((-2147483648 ≤ z27 ∧ z27 ≤ 2147483647 ∧ -2147483648 ≤ z33 ∧ z33 ≤ 2147483647) ∧
                (z33 ≤ z27 → (iq_P N xs 240 35 [some (iq_r 0), some (iq_i v1), some (iq_i v2), some (iq_i v3), some (iq_i v4), some (iq_i (v5 + 1)), some (iq_i 0)] [] g31 l32 Q)) ∧
                (z27 < z33 → (iq_P N xs 147 0 [some (iq_r 23), some (iq_i v5)] [] g31 l32 (fun r g34 l35 => ∃ z36, r = some (iq_i z36) ∧ ((-2147483648 ≤ z36 ∧ z36 ≤ 2147483647 ∧ -2147483648 ≤ v1 ∧ v1 ≤ 2147483647) ∧
                      (¬ z36 = v1 → (iq_P N xs 240 35 [some (iq_r 0), some (iq_i v1), some (iq_i v2), some (iq_i v3), some (iq_i v4), some (iq_i (v5 + 1)), some (iq_i 1)] [] g34 l35 Q)) ∧
                      (z36 = v1 → (iq_P N xs 240 35 [some (iq_r 0), some (iq_i v1), some (iq_i v2), some (iq_i 1), some (iq_i v5), some (iq_i (v5 + 1)), some (iq_i 1)] [] g34 l35 Q))))))))))))))))))) :
    iq_P N xs 240 35 [some (iq_r 0), some (iq_i v1), some (iq_i v2), some (iq_i v3), some (iq_i v4), some (iq_i v5), d6] [] g l Q := iq_w_ok (cuts := [35]) 33 35 _ _ _ _ H

-- ScaleForgeModel.laysNames(I)V at 0
set_option maxRecDepth 20000 in
theorem B241_77 {N : Nat} {xs : Nat → Int32} {Q : iq_T} (a0 : Int) (g : iq_I) (l : iq_J) (H : iq_P N xs 241 14 [some (iq_r 77), some (iq_i a0), some (iq_i (-60))] [] (iq_uz (iq_uz g 77 28 61) 77 29 0) l Q) :
    iq_P N xs 241 0 [some (iq_r 77), some (iq_i a0), none] [] g l Q := iq_w_ok (cuts := [14]) 8 0 _ _ _ _ H

-- ScaleForgeModel.laysNames(I)V at 14
set_option maxRecDepth 20000 in
theorem B241_p14_77 {N : Nat} {xs : Nat → Int32} {Q : iq_T} (v1 : Int) (v2 : Int) (g : iq_I) (l : iq_J) (H : (-2147483648 ≤ v2 ∧ v2 ≤ 2147483647) ∧
    ((60 : Int) < v2 → (Q (none) g l)) ∧
    (v2 ≤ (60 : Int) → (iq_P N xs 112 0 [some (iq_r 77), some (iq_i v2), some (iq_i (g 78 2))] [] g l (fun r g1 l2 => ∃ z3, r = some (iq_i z3) ∧ ((-2147483648 ≤ z3 ∧ z3 ≤ 2147483647 ∧ -2147483648 ≤ v1 ∧ v1 ≤ 2147483647) ∧
        (z3 = v1 → ((-2147483648 ≤ (g1 77 28) ∧ (g1 77 28) ≤ 2147483647) ∧
          ((60 : Int) < (g1 77 28) → (iq_P N xs 241 14 [some (iq_r 77), some (iq_i v1), some (iq_i (v2 + 1))] [] (iq_uz (iq_uz g1 77 29 ((g1 77 29) + 1)) 77 28 v2) l2 Q)) ∧
          ((g1 77 28) ≤ (60 : Int) → (iq_P N xs 235 0 [some (iq_r 77), some (iq_i v2)] [] (iq_uz g1 77 29 ((g1 77 29) + 1)) l2 (fun r g4 l5 => ∃ z6, r = some (iq_i z6) ∧ (iq_P N xs 239 0 [some (iq_i z6)] [] g4 l5 (fun r g7 l8 => ∃ z9, r = some (iq_i z9) ∧ (iq_P N xs 235 0 [some (iq_r 77), some (iq_i (g7 77 28))] [] g7 l8 (fun r g10 l11 => ∃ z12, r = some (iq_i z12) ∧ (iq_P N xs 239 0 [some (iq_i z12)] [] g10 l11 (fun r g13 l14 => ∃ z15, r = some (iq_i z15) ∧ ((-2147483648 ≤ z9 ∧ z9 ≤ 2147483647 ∧ -2147483648 ≤ z15 ∧ z15 ≤ 2147483647) ∧
                    (z15 ≤ z9 → (iq_P N xs 241 14 [some (iq_r 77), some (iq_i v1), some (iq_i (v2 + 1))] [] g13 l14 Q)) ∧
                    (z9 < z15 → (iq_P N xs 241 14 [some (iq_r 77), some (iq_i v1), some (iq_i (v2 + 1))] [] (iq_uz g13 77 28 v2) l14 Q)))))))))))))) ∧
        (¬ z3 = v1 → (iq_P N xs 241 14 [some (iq_r 77), some (iq_i v1), some (iq_i (v2 + 1))] [] g1 l2 Q))))))) :
    iq_P N xs 241 14 [some (iq_r 77), some (iq_i v1), some (iq_i v2)] [] g l Q := iq_w_ok (cuts := [14]) 37 14 _ _ _ _ H

-- ScaleForgeModel.simplest(II)I at 0
set_option maxRecDepth 20000 in
theorem B242_77 {N : Nat} {xs : Nat → Int32} {Q : iq_T} (a0 : Int) (a1 : Int) (g : iq_I) (l : iq_J) (H : iq_P N xs 158 0 [some (iq_r 77), some (iq_i a0)] [] g l (fun r g1 l2 => ∃ z3, r = some (iq_i z3) ∧ ((-2147483648 ≤ z3 ∧ z3 ≤ 2147483647) ∧
      (z3 = (0 : Int) → (iq_P N xs 98 0 [some (iq_r 77), some (iq_i 1)] [] g1 l2 (fun r g4 l5 => ∃ z6, r = some (iq_i z6) ∧ (Q (some (iq_i z6)) g4 l5)))) ∧
      (¬ z3 = (0 : Int) → ((-2147483648 ≤ a1 ∧ a1 ≤ 2147483647) ∧
        (a1 < (0 : Int) → (iq_P N xs 98 0 [some (iq_r 77), some (iq_i 1)] [] g1 l2 (fun r g7 l8 => ∃ z9, r = some (iq_i z9) ∧ (Q (some (iq_i z9)) g7 l8)))) ∧
        ((0 : Int) ≤ a1 → ((-2147483648 ≤ a1 ∧ a1 ≤ 2147483647) ∧
          (a1 ≤ (2 : Int) → (iq_P N xs 241 0 [some (iq_r 77), some (iq_i a0), none] [] g1 l2 (fun r g10 l11 => r = none ∧ ((-2147483648 ≤ (g10 77 29) ∧ (g10 77 29) ≤ 2147483647) ∧
              (¬ (g10 77 29) = (0 : Int) → ((-2147483648 ≤ a1 ∧ a1 ≤ 2147483647) ∧
                (¬ a1 = (0 : Int) → ((-2147483648 ≤ a1 ∧ a1 ≤ 2147483647) ∧
                  (¬ a1 = (1 : Int) → (iq_P N xs 115 0 [some (iq_r 77), some (iq_i (g10 77 28))] [] g10 l11 (fun r g12 l13 => ∃ z14, r = some (iq_i z14) ∧ (Q (some (iq_i z14)) g12 l13)))) ∧
                  (a1 = (1 : Int) → (iq_P N xs 235 0 [some (iq_r 77), some (iq_i (g10 77 28))] [] g10 l11 (fun r g15 l16 => ∃ z17, r = some (iq_i z17) ∧ (iq_P N xs 115 0 [some (iq_r 77), some (iq_i z17)] [] g15 l16 (fun r g18 l19 => ∃ z20, r = some (iq_i z20) ∧ (Q (some (iq_i z20)) g18 l19)))))))) ∧
                (a1 = (0 : Int) → (iq_P N xs 230 0 [some (iq_r 77), some (iq_i (g10 77 28))] [] g10 l11 (fun r g21 l22 => ∃ z23, r = some (iq_i z23) ∧ (iq_P N xs 115 0 [some (iq_r 77), some (iq_i z23)] [] g21 l22 (fun r g24 l25 => ∃ z26, r = some (iq_i z26) ∧ (Q (some (iq_i z26)) g24 l25)))))))) ∧
              ((g10 77 29) = (0 : Int) → (iq_P N xs 98 0 [some (iq_r 77), some (iq_i 6)] [] g10 l11 (fun r g27 l28 => ∃ z29, r = some (iq_i z29) ∧ (Q (some (iq_i z29)) g27 l28)))))))) ∧
          ((2 : Int) < a1 → (iq_P N xs 98 0 [some (iq_r 77), some (iq_i 1)] [] g1 l2 (fun r g30 l31 => ∃ z32, r = some (iq_i z32) ∧ (Q (some (iq_i z32)) g30 l31))))))))))) :
    iq_P N xs 242 0 [some (iq_r 77), some (iq_i a0), some (iq_i a1)] [] g l Q := iq_w_ok (cuts := []) 28 0 _ _ _ _ H

-- ScaleForge.names(I)I at 0
set_option maxRecDepth 20000 in
theorem B243_0 {N : Nat} {xs : Nat → Int32} {Q : iq_T} (a0 : Int) (g : iq_I) (l : iq_J) (H : iq_P N xs 77 0 [some (iq_r 23), some (iq_i a0)] [] g l (fun r g1 l2 => ∃ z3, r = some (iq_i z3) ∧ ((-2147483648 ≤ z3 ∧ z3 ≤ 2147483647) ∧
      (¬ z3 = (0 : Int) → (iq_P N xs 243 22 [some (iq_r 0), some (iq_i a0), some (iq_i 0), some (iq_i (-60))] [] g1 l2 Q)) ∧
      (z3 = (0 : Int) → (iq_P N xs 44 0 [some (iq_r 0), some (iq_i 1)] [] g1 l2 (fun r g4 l5 => ∃ z6, r = some (iq_i z6) ∧ (Q (some (iq_i z6)) g4 l5))))))) :
    iq_P N xs 243 0 [some (iq_r 0), some (iq_i a0), none, none] [] g l Q := iq_w_ok (cuts := [22]) 9 0 _ _ _ _ H

-- ScaleForge.names(I)I at 22
set_option maxRecDepth 20000 in
theorem B243_p22_0 {N : Nat} {xs : Nat → Int32} {Q : iq_T} (v1 : Int) (v2 : Int) (v3 : Int) (g : iq_I) (l : iq_J) (H : (-2147483648 ≤ v3 ∧ v3 ≤ 2147483647) ∧
    ((60 : Int) < v3 → (iq_P N xs 90 0 [some (iq_r 0), some (iq_i v2)] [] g l (fun r g1 l2 => ∃ z3, r = some (iq_i z3) ∧ (Q (some (iq_i z3)) g1 l2)))) ∧
    (v3 ≤ (60 : Int) → (iq_P N xs 147 0 [some (iq_r 23), some (iq_i v3)] [] g l (fun r g4 l5 => ∃ z6, r = some (iq_i z6) ∧ ((-2147483648 ≤ z6 ∧ z6 ≤ 2147483647 ∧ -2147483648 ≤ v1 ∧ v1 ≤ 2147483647) ∧
        (¬ z6 = v1 → (iq_P N xs 243 22 [some (iq_r 0), some (iq_i v1), some (iq_i (v2 + 0)), some (iq_i (v3 + 1))] [] g4 l5 Q)) ∧
        (z6 = v1 → (iq_P N xs 243 22 [some (iq_r 0), some (iq_i v1), some (iq_i (v2 + 1)), some (iq_i (v3 + 1))] [] g4 l5 Q))))))) :
    iq_P N xs 243 22 [some (iq_r 0), some (iq_i v1), some (iq_i v2), some (iq_i v3)] [] g l Q := iq_w_ok (cuts := [22]) 16 22 _ _ _ _ H

-- ScaleForgeModel.names(I)I at 0
set_option maxRecDepth 20000 in
theorem B244_77 {N : Nat} {xs : Nat → Int32} {Q : iq_T} (a0 : Int) (g : iq_I) (l : iq_J) (H : iq_P N xs 158 0 [some (iq_r 77), some (iq_i a0)] [] g l (fun r g1 l2 => ∃ z3, r = some (iq_i z3) ∧ ((-2147483648 ≤ z3 ∧ z3 ≤ 2147483647) ∧
      (¬ z3 = (0 : Int) → (iq_P N xs 241 0 [some (iq_r 77), some (iq_i a0), none] [] g1 l2 (fun r g4 l5 => r = none ∧ (iq_P N xs 115 0 [some (iq_r 77), some (iq_i (g4 77 29))] [] g4 l5 (fun r g6 l7 => ∃ z8, r = some (iq_i z8) ∧ (Q (some (iq_i z8)) g6 l7)))))) ∧
      (z3 = (0 : Int) → (iq_P N xs 98 0 [some (iq_r 77), some (iq_i 1)] [] g1 l2 (fun r g9 l10 => ∃ z11, r = some (iq_i z11) ∧ (Q (some (iq_i z11)) g9 l10))))))) :
    iq_P N xs 244 0 [some (iq_r 77), some (iq_i a0)] [] g l Q := iq_w_ok (cuts := []) 12 0 _ _ _ _ H

-- ScaleForge$Scale.toneOfKey(II)I at 0
set_option maxRecDepth 20000 in
theorem B245_23 {N : Nat} {xs : Nat → Int32} {Q : iq_T} (a0 : Int) (a1 : Int) (g : iq_I) (l : iq_J) (H : iq_P N xs 5 0 [some (iq_r 23), some (iq_i ((a0 * (g 24 7)) + (a1 * (g 24 8)))), none] [] g l (fun r g1 l2 => ∃ z3, r = some (iq_i z3) ∧ (Q (some (iq_i z3)) g1 l2))) :
    iq_P N xs 245 0 [some (iq_r 23), some (iq_i a0), some (iq_i a1)] [] g l Q := iq_w_ok (cuts := []) 16 0 _ _ _ _ H

-- ScaleForge.keyTone(II)I at 0
set_option maxRecDepth 20000 in
theorem B246_0 {N : Nat} {xs : Nat → Int32} {Q : iq_T} (a0 : Int) (a1 : Int) (g : iq_I) (l : iq_J) (H : (-2147483648 ≤ a0 ∧ a0 ≤ 2147483647) ∧
    (a0 < (0 : Int) → (iq_P N xs 44 0 [some (iq_r 0), some (iq_i 1)] [] g l (fun r g1 l2 => ∃ z3, r = some (iq_i z3) ∧ (Q (some (iq_i z3)) g1 l2)))) ∧
    ((0 : Int) ≤ a0 → ((-2147483648 ≤ a0 ∧ a0 ≤ 2147483647) ∧
      ((12 : Int) ≤ a0 → (iq_P N xs 44 0 [some (iq_r 0), some (iq_i 1)] [] g l (fun r g4 l5 => ∃ z6, r = some (iq_i z6) ∧ (Q (some (iq_i z6)) g4 l5)))) ∧
      (a0 < (12 : Int) → ((-2147483648 ≤ a1 ∧ a1 ≤ 2147483647) ∧
        (a1 < (0 : Int) → (iq_P N xs 44 0 [some (iq_r 0), some (iq_i 1)] [] g l (fun r g7 l8 => ∃ z9, r = some (iq_i z9) ∧ (Q (some (iq_i z9)) g7 l8)))) ∧
        ((0 : Int) ≤ a1 → ((-2147483648 ≤ a1 ∧ a1 ≤ 2147483647) ∧
          (a1 < (6 : Int) → (iq_P N xs 245 0 [some (iq_r 23), some (iq_i a0), some (iq_i a1)] [] g l (fun r g10 l11 => ∃ z12, r = some (iq_i z12) ∧ (iq_P N xs 90 0 [some (iq_r 0), some (iq_i z12)] [] g10 l11 (fun r g13 l14 => ∃ z15, r = some (iq_i z15) ∧ (Q (some (iq_i z15)) g13 l14)))))) ∧
          ((6 : Int) ≤ a1 → (iq_P N xs 44 0 [some (iq_r 0), some (iq_i 1)] [] g l (fun r g16 l17 => ∃ z18, r = some (iq_i z18) ∧ (Q (some (iq_i z18)) g16 l17))))))))))) :
    iq_P N xs 246 0 [some (iq_r 0), some (iq_i a0), some (iq_i a1)] [] g l Q := iq_w_ok (cuts := []) 18 0 _ _ _ _ H

-- ScaleForgeModel.toneOfKey(I)I at 0
set_option maxRecDepth 20000 in
theorem B247_77 {N : Nat} {xs : Nat → Int32} {Q : iq_T} (a0 : Int) (g : iq_I) (l : iq_J) (H : (-2147483648 < a0 ∧ a0 ≤ 2147483647 ∧ -2147483648 ≤ (6 : Int) ∧ (6 : Int) ≤ 2147483647 ∧ ¬ (6 : Int) = 0) ∧ ((-2147483648 < a0 ∧ a0 ≤ 2147483647 ∧ -2147483648 ≤ (6 : Int) ∧ (6 : Int) ≤ 2147483647 ∧ ¬ (6 : Int) = 0) ∧ (iq_P N xs 111 0 [some (iq_i (((Int.tdiv a0 (6 : Int)) * (g 78 7)) + ((Int.tmod a0 (6 : Int)) * (g 78 8)))), some (iq_i (g 78 1)), none] [] g l (fun r g1 l2 => ∃ z3, r = some (iq_i z3) ∧ (Q (some (iq_i z3)) g1 l2))))) :
    iq_P N xs 247 0 [some (iq_r 77), some (iq_i a0)] [] g l Q := iq_w_ok (cuts := []) 23 0 _ _ _ _ H

-- ScaleForgeModel.keyTone(II)I at 0
set_option maxRecDepth 20000 in
theorem B248_77 {N : Nat} {xs : Nat → Int32} {Q : iq_T} (a0 : Int) (a1 : Int) (g : iq_I) (l : iq_J) (H : iq_P N xs 149 0 [some (iq_l (iq_i2l a0)), none, some (iq_l (0 : Int64)), none, some (iq_l (Int64.ofNat 11)), none] [] g l (fun r g1 l2 => ∃ z3, r = some (iq_i z3) ∧ ((-2147483648 ≤ z3 ∧ z3 ≤ 2147483647) ∧
      (z3 = (0 : Int) → (iq_P N xs 98 0 [some (iq_r 77), some (iq_i 1)] [] g1 l2 (fun r g4 l5 => ∃ z6, r = some (iq_i z6) ∧ (Q (some (iq_i z6)) g4 l5)))) ∧
      (¬ z3 = (0 : Int) → (iq_P N xs 149 0 [some (iq_l (iq_i2l a1)), none, some (iq_l (0 : Int64)), none, some (iq_l (Int64.ofNat 5)), none] [] g1 l2 (fun r g7 l8 => ∃ z9, r = some (iq_i z9) ∧ ((-2147483648 ≤ z9 ∧ z9 ≤ 2147483647) ∧
          (z9 = (0 : Int) → (iq_P N xs 98 0 [some (iq_r 77), some (iq_i 1)] [] g7 l8 (fun r g10 l11 => ∃ z12, r = some (iq_i z12) ∧ (Q (some (iq_i z12)) g10 l11)))) ∧
          (¬ z9 = (0 : Int) → (iq_P N xs 247 0 [some (iq_r 77), some (iq_i ((6 * a0) + a1))] [] g7 l8 (fun r g13 l14 => ∃ z15, r = some (iq_i z15) ∧ (iq_P N xs 115 0 [some (iq_r 77), some (iq_i z15)] [] g13 l14 (fun r g16 l17 => ∃ z18, r = some (iq_i z18) ∧ (Q (some (iq_i z18)) g16 l17))))))))))))) :
    iq_P N xs 248 0 [some (iq_r 77), some (iq_i a0), some (iq_i a1)] [] g l Q := iq_w_ok (cuts := []) 23 0 _ _ _ _ H

-- ScaleForge.keys(I)I at 0
set_option maxRecDepth 20000 in
theorem B249_0 {N : Nat} {xs : Nat → Int32} {Q : iq_T} (a0 : Int) (g : iq_I) (l : iq_J) (H : iq_P N xs 77 0 [some (iq_r 23), some (iq_i a0)] [] g l (fun r g1 l2 => ∃ z3, r = some (iq_i z3) ∧ ((-2147483648 ≤ z3 ∧ z3 ≤ 2147483647) ∧
      (¬ z3 = (0 : Int) → (iq_P N xs 249 21 [some (iq_r 0), some (iq_i a0), some (iq_i 0), some (iq_i 0), none] [] g1 l2 Q)) ∧
      (z3 = (0 : Int) → (iq_P N xs 44 0 [some (iq_r 0), some (iq_i 1)] [] g1 l2 (fun r g4 l5 => ∃ z6, r = some (iq_i z6) ∧ (Q (some (iq_i z6)) g4 l5))))))) :
    iq_P N xs 249 0 [some (iq_r 0), some (iq_i a0), none, none, none] [] g l Q := iq_w_ok (cuts := [21, 30]) 9 0 _ _ _ _ H

-- ScaleForge.keys(I)I at 21
set_option maxRecDepth 20000 in
theorem B249_p21_0 {N : Nat} {xs : Nat → Int32} {Q : iq_T} (v1 : Int) (v2 : Int) (v3 : Int) (d4 : Option iq_V) (g : iq_I) (l : iq_J) (H : (-2147483648 ≤ v3 ∧ v3 ≤ 2147483647) ∧
    ((6 : Int) ≤ v3 → (iq_P N xs 90 0 [some (iq_r 0), some (iq_i v2)] [] g l (fun r g1 l2 => ∃ z3, r = some (iq_i z3) ∧ (Q (some (iq_i z3)) g1 l2)))) ∧
    (v3 < (6 : Int) → (iq_P N xs 249 30 [some (iq_r 0), some (iq_i v1), some (iq_i v2), some (iq_i v3), some (iq_i 0)] [] g l Q))) :
    iq_P N xs 249 21 [some (iq_r 0), some (iq_i v1), some (iq_i v2), some (iq_i v3), d4] [] g l Q := iq_w_ok (cuts := [21, 30]) 7 21 _ _ _ _ H

-- ScaleForge.keys(I)I at 30
set_option maxRecDepth 20000 in
theorem B249_p30_0 {N : Nat} {xs : Nat → Int32} {Q : iq_T} (v1 : Int) (v2 : Int) (v3 : Int) (v4 : Int) (g : iq_I) (l : iq_J) (H : (-2147483648 ≤ v4 ∧ v4 ≤ 2147483647) ∧
    ((12 : Int) ≤ v4 → (iq_P N xs 249 21 [some (iq_r 0), some (iq_i v1), some (iq_i v2), some (iq_i (v3 + 1)), some (iq_i v4)] [] g l Q)) ∧
    (v4 < (12 : Int) → (iq_P N xs 245 0 [some (iq_r 23), some (iq_i v4), some (iq_i v3)] [] g l (fun r g1 l2 => ∃ z3, r = some (iq_i z3) ∧ ((-2147483648 ≤ z3 ∧ z3 ≤ 2147483647 ∧ -2147483648 ≤ v1 ∧ v1 ≤ 2147483647) ∧
        (¬ z3 = v1 → (iq_P N xs 249 30 [some (iq_r 0), some (iq_i v1), some (iq_i (v2 + 0)), some (iq_i v3), some (iq_i (v4 + 1))] [] g1 l2 Q)) ∧
        (z3 = v1 → (iq_P N xs 249 30 [some (iq_r 0), some (iq_i v1), some (iq_i (v2 + 1)), some (iq_i v3), some (iq_i (v4 + 1))] [] g1 l2 Q))))))) :
    iq_P N xs 249 30 [some (iq_r 0), some (iq_i v1), some (iq_i v2), some (iq_i v3), some (iq_i v4)] [] g l Q := iq_w_ok (cuts := [21, 30]) 17 30 _ _ _ _ H

-- ScaleForgeModel.keys(I)I at 0
set_option maxRecDepth 20000 in
theorem B250_77 {N : Nat} {xs : Nat → Int32} {Q : iq_T} (a0 : Int) (g : iq_I) (l : iq_J) (H : iq_P N xs 158 0 [some (iq_r 77), some (iq_i a0)] [] g l (fun r g1 l2 => ∃ z3, r = some (iq_i z3) ∧ ((-2147483648 ≤ z3 ∧ z3 ≤ 2147483647) ∧
      (¬ z3 = (0 : Int) → (iq_P N xs 250 18 [some (iq_r 77), some (iq_i a0), some (iq_i 0), some (iq_i 0)] [] g1 l2 Q)) ∧
      (z3 = (0 : Int) → (iq_P N xs 98 0 [some (iq_r 77), some (iq_i 1)] [] g1 l2 (fun r g4 l5 => ∃ z6, r = some (iq_i z6) ∧ (Q (some (iq_i z6)) g4 l5))))))) :
    iq_P N xs 250 0 [some (iq_r 77), some (iq_i a0), none, none] [] g l Q := iq_w_ok (cuts := [18]) 8 0 _ _ _ _ H

-- ScaleForgeModel.keys(I)I at 18
set_option maxRecDepth 20000 in
theorem B250_p18_77 {N : Nat} {xs : Nat → Int32} {Q : iq_T} (v1 : Int) (v2 : Int) (v3 : Int) (g : iq_I) (l : iq_J) (H : (-2147483648 ≤ v3 ∧ v3 ≤ 2147483647) ∧
    ((72 : Int) ≤ v3 → (iq_P N xs 115 0 [some (iq_r 77), some (iq_i v2)] [] g l (fun r g1 l2 => ∃ z3, r = some (iq_i z3) ∧ (Q (some (iq_i z3)) g1 l2)))) ∧
    (v3 < (72 : Int) → (iq_P N xs 247 0 [some (iq_r 77), some (iq_i v3)] [] g l (fun r g4 l5 => ∃ z6, r = some (iq_i z6) ∧ ((-2147483648 ≤ z6 ∧ z6 ≤ 2147483647 ∧ -2147483648 ≤ v1 ∧ v1 ≤ 2147483647) ∧
        (¬ z6 = v1 → (iq_P N xs 250 18 [some (iq_r 77), some (iq_i v1), some (iq_i (v2 + 0)), some (iq_i (v3 + 1))] [] g4 l5 Q)) ∧
        (z6 = v1 → (iq_P N xs 250 18 [some (iq_r 77), some (iq_i v1), some (iq_i (v2 + 1)), some (iq_i (v3 + 1))] [] g4 l5 Q))))))) :
    iq_P N xs 250 18 [some (iq_r 77), some (iq_i v1), some (iq_i v2), some (iq_i v3)] [] g l Q := iq_w_ok (cuts := [18]) 15 18 _ _ _ _ H

-- ScaleForge.keyOf(II)I at 0
set_option maxRecDepth 20000 in
theorem B251_0 {N : Nat} {xs : Nat → Int32} {Q : iq_T} (a0 : Int) (a1 : Int) (g : iq_I) (l : iq_J) (H : iq_P N xs 77 0 [some (iq_r 23), some (iq_i a0)] [] g l (fun r g1 l2 => ∃ z3, r = some (iq_i z3) ∧ ((-2147483648 ≤ z3 ∧ z3 ≤ 2147483647) ∧
      (z3 = (0 : Int) → (iq_P N xs 44 0 [some (iq_r 0), some (iq_i 1)] [] g1 l2 (fun r g4 l5 => ∃ z6, r = some (iq_i z6) ∧ (Q (some (iq_i z6)) g4 l5)))) ∧
      (¬ z3 = (0 : Int) → ((-2147483648 ≤ a1 ∧ a1 ≤ 2147483647) ∧
        (a1 < (0 : Int) → (iq_P N xs 44 0 [some (iq_r 0), some (iq_i 1)] [] g1 l2 (fun r g7 l8 => ∃ z9, r = some (iq_i z9) ∧ (Q (some (iq_i z9)) g7 l8)))) ∧
        ((0 : Int) ≤ a1 → ((-2147483648 ≤ a1 ∧ a1 ≤ 2147483647) ∧
          (a1 ≤ (1 : Int) → (iq_P N xs 251 28 [some (iq_r 0), some (iq_i a0), some (iq_i a1), some (iq_i 0), none, none] [] g1 l2 Q)) ∧
          ((1 : Int) < a1 → (iq_P N xs 44 0 [some (iq_r 0), some (iq_i 1)] [] g1 l2 (fun r g10 l11 => ∃ z12, r = some (iq_i z12) ∧ (Q (some (iq_i z12)) g10 l11))))))))))) :
    iq_P N xs 251 0 [some (iq_r 0), some (iq_i a0), some (iq_i a1), none, none, none] [] g l Q := iq_w_ok (cuts := [28, 37]) 14 0 _ _ _ _ H

-- ScaleForge.keyOf(II)I at 28
set_option maxRecDepth 20000 in
theorem B251_p28_0 {N : Nat} {xs : Nat → Int32} {Q : iq_T} (v1 : Int) (v2 : Int) (v3 : Int) (d4 : Option iq_V) (d5 : Option iq_V) (g : iq_I) (l : iq_J) (H : (-2147483648 ≤ v3 ∧ v3 ≤ 2147483647) ∧
    ((18 : Int) ≤ v3 → (iq_P N xs 44 0 [some (iq_r 0), some (iq_i 6)] [] g l (fun r g1 l2 => ∃ z3, r = some (iq_i z3) ∧ (Q (some (iq_i z3)) g1 l2)))) ∧
    (v3 < (18 : Int) → (iq_P N xs 251 37 [some (iq_r 0), some (iq_i v1), some (iq_i v2), some (iq_i v3), some (iq_i 0), (iq_nv d5)] [] g l Q))) :
    iq_P N xs 251 28 [some (iq_r 0), some (iq_i v1), some (iq_i v2), some (iq_i v3), d4, d5] [] g l Q := iq_w_ok (cuts := [28, 37]) 7 28 _ _ _ _ H

-- ScaleForge.keyOf(II)I at 37
set_option maxRecDepth 20000 in
theorem B251_p37_0 {N : Nat} {xs : Nat → Int32} {Q : iq_T} (v1 : Int) (v2 : Int) (v3 : Int) (v4 : Int) (d5 : Option iq_V) (g : iq_I) (l : iq_J) (H : (-2147483648 ≤ v4 ∧ v4 ≤ 2147483647) ∧
    ((6 : Int) ≤ v4 → (iq_P N xs 251 28 [some (iq_r 0), some (iq_i v1), some (iq_i v2), some (iq_i (v3 + 1)), some (iq_i v4), (iq_nv d5)] [] g l Q)) ∧
    (v4 < (6 : Int) → ((-2147483648 ≤ v4 ∧ v4 ≤ 2147483647 ∧ -2147483648 ≤ v3 ∧ v3 ≤ 2147483647) ∧
      (v3 < v4 → (iq_P N xs 251 28 [some (iq_r 0), some (iq_i v1), some (iq_i v2), some (iq_i (v3 + 1)), some (iq_i v4), (iq_nv d5)] [] g l Q)) ∧
      (v4 ≤ v3 → ((-2147483648 ≤ (v3 - v4) ∧ (v3 - v4) ≤ 2147483647) ∧
        ((12 : Int) ≤ (v3 - v4) → (iq_P N xs 251 37 [some (iq_r 0), some (iq_i v1), some (iq_i v2), some (iq_i v3), some (iq_i (v4 + 1)), some (iq_i (v3 - v4))] [] g l Q)) ∧
        ((v3 - v4) < (12 : Int) → (iq_P N xs 245 0 [some (iq_r 23), some (iq_i (v3 - v4)), some (iq_i v4)] [] g l (fun r g1 l2 => ∃ z3, r = some (iq_i z3) ∧ ((-2147483648 ≤ z3 ∧ z3 ≤ 2147483647 ∧ -2147483648 ≤ v1 ∧ v1 ≤ 2147483647) ∧
            (¬ z3 = v1 → (iq_P N xs 251 37 [some (iq_r 0), some (iq_i v1), some (iq_i v2), some (iq_i v3), some (iq_i (v4 + 1)), some (iq_i (v3 - v4))] [] g1 l2 Q)) ∧
            (z3 = v1 → ((-2147483648 ≤ v2 ∧ v2 ≤ 2147483647) ∧
              (¬ v2 = (0 : Int) → (iq_P N xs 90 0 [some (iq_r 0), some (iq_i v4)] [] g1 l2 (fun r g4 l5 => ∃ z6, r = some (iq_i z6) ∧ (Q (some (iq_i z6)) g4 l5)))) ∧
              (v2 = (0 : Int) → (iq_P N xs 90 0 [some (iq_r 0), some (iq_i (v3 - v4))] [] g1 l2 (fun r g7 l8 => ∃ z9, r = some (iq_i z9) ∧ (Q (some (iq_i z9)) g7 l8))))))))))))))) :
    iq_P N xs 251 37 [some (iq_r 0), some (iq_i v1), some (iq_i v2), some (iq_i v3), some (iq_i v4), d5] [] g l Q := iq_w_ok (cuts := [28, 37]) 27 37 _ _ _ _ H

-- ScaleForgeModel.bestKey(I)I at 0
set_option maxRecDepth 20000 in
theorem B252_77 {N : Nat} {xs : Nat → Int32} {Q : iq_T} (a0 : Int) (g : iq_I) (l : iq_J) (H : iq_P N xs 252 2 [some (iq_r 77), some (iq_i a0), some (iq_i 0), none] [] g l Q) :
    iq_P N xs 252 0 [some (iq_r 77), some (iq_i a0), none, none] [] g l Q := iq_w_ok (cuts := [2, 10]) 2 0 _ _ _ _ H

-- ScaleForgeModel.bestKey(I)I at 2
set_option maxRecDepth 20000 in
theorem B252_p2_77 {N : Nat} {xs : Nat → Int32} {Q : iq_T} (v1 : Int) (v2 : Int) (d3 : Option iq_V) (g : iq_I) (l : iq_J) (H : (-2147483648 ≤ v2 ∧ v2 ≤ 2147483647) ∧
    ((18 : Int) ≤ v2 → (Q (some (iq_i (-1))) g l)) ∧
    (v2 < (18 : Int) → (iq_P N xs 252 10 [some (iq_r 77), some (iq_i v1), some (iq_i v2), some (iq_i 0)] [] g l Q))) :
    iq_P N xs 252 2 [some (iq_r 77), some (iq_i v1), some (iq_i v2), d3] [] g l Q := iq_w_ok (cuts := [2, 10]) 5 2 _ _ _ _ H

-- ScaleForgeModel.bestKey(I)I at 10
set_option maxRecDepth 20000 in
theorem B252_p10_77 {N : Nat} {xs : Nat → Int32} {Q : iq_T} (v1 : Int) (v2 : Int) (v3 : Int) (g : iq_I) (l : iq_J) (H : (-2147483648 ≤ v3 ∧ v3 ≤ 2147483647) ∧
    ((6 : Int) ≤ v3 → (iq_P N xs 252 2 [some (iq_r 77), some (iq_i v1), some (iq_i (v2 + 1)), some (iq_i v3)] [] g l Q)) ∧
    (v3 < (6 : Int) → ((-2147483648 ≤ v3 ∧ v3 ≤ 2147483647 ∧ -2147483648 ≤ v2 ∧ v2 ≤ 2147483647) ∧
      (v2 < v3 → (iq_P N xs 252 2 [some (iq_r 77), some (iq_i v1), some (iq_i (v2 + 1)), some (iq_i v3)] [] g l Q)) ∧
      (v3 ≤ v2 → ((-2147483648 ≤ (v2 - v3) ∧ (v2 - v3) ≤ 2147483647) ∧
        ((12 : Int) ≤ (v2 - v3) → (iq_P N xs 252 10 [some (iq_r 77), some (iq_i v1), some (iq_i v2), some (iq_i (v3 + 1))] [] g l Q)) ∧
        ((v2 - v3) < (12 : Int) → (iq_P N xs 247 0 [some (iq_r 77), some (iq_i ((6 * (v2 - v3)) + v3))] [] g l (fun r g1 l2 => ∃ z3, r = some (iq_i z3) ∧ ((-2147483648 ≤ z3 ∧ z3 ≤ 2147483647 ∧ -2147483648 ≤ v1 ∧ v1 ≤ 2147483647) ∧
            (¬ z3 = v1 → (iq_P N xs 252 10 [some (iq_r 77), some (iq_i v1), some (iq_i v2), some (iq_i (v3 + 1))] [] g1 l2 Q)) ∧
            (z3 = v1 → (Q (some (iq_i ((6 * (v2 - v3)) + v3))) g1 l2))))))))))) :
    iq_P N xs 252 10 [some (iq_r 77), some (iq_i v1), some (iq_i v2), some (iq_i v3)] [] g l Q := iq_w_ok (cuts := [2, 10]) 30 10 _ _ _ _ H

-- ScaleForgeModel.keyOf(II)I at 0
set_option maxRecDepth 20000 in
theorem B253_77 {N : Nat} {xs : Nat → Int32} {Q : iq_T} (a0 : Int) (a1 : Int) (g : iq_I) (l : iq_J) (H : iq_P N xs 158 0 [some (iq_r 77), some (iq_i a0)] [] g l (fun r g1 l2 => ∃ z3, r = some (iq_i z3) ∧ ((-2147483648 ≤ z3 ∧ z3 ≤ 2147483647) ∧
      (z3 = (0 : Int) → (iq_P N xs 98 0 [some (iq_r 77), some (iq_i 1)] [] g1 l2 (fun r g4 l5 => ∃ z6, r = some (iq_i z6) ∧ (Q (some (iq_i z6)) g4 l5)))) ∧
      (¬ z3 = (0 : Int) → ((-2147483648 ≤ a1 ∧ a1 ≤ 2147483647) ∧
        (a1 < (0 : Int) → (iq_P N xs 98 0 [some (iq_r 77), some (iq_i 1)] [] g1 l2 (fun r g7 l8 => ∃ z9, r = some (iq_i z9) ∧ (Q (some (iq_i z9)) g7 l8)))) ∧
        ((0 : Int) ≤ a1 → ((-2147483648 ≤ a1 ∧ a1 ≤ 2147483647) ∧
          (a1 ≤ (1 : Int) → (iq_P N xs 252 0 [some (iq_r 77), some (iq_i a0), none, none] [] g1 l2 (fun r g10 l11 => ∃ z12, r = some (iq_i z12) ∧ ((-2147483648 ≤ z12 ∧ z12 ≤ 2147483647) ∧
              (¬ z12 = (-1 : Int) → ((-2147483648 ≤ a1 ∧ a1 ≤ 2147483647) ∧
                (¬ a1 = (0 : Int) → ((-2147483648 < z12 ∧ z12 ≤ 2147483647 ∧ -2147483648 ≤ (6 : Int) ∧ (6 : Int) ≤ 2147483647 ∧ ¬ (6 : Int) = 0) ∧ (iq_P N xs 115 0 [some (iq_r 77), some (iq_i (Int.tmod z12 (6 : Int)))] [] g10 l11 (fun r g13 l14 => ∃ z15, r = some (iq_i z15) ∧ (Q (some (iq_i z15)) g13 l14))))) ∧
                (a1 = (0 : Int) → ((-2147483648 < z12 ∧ z12 ≤ 2147483647 ∧ -2147483648 ≤ (6 : Int) ∧ (6 : Int) ≤ 2147483647 ∧ ¬ (6 : Int) = 0) ∧ (iq_P N xs 115 0 [some (iq_r 77), some (iq_i (Int.tdiv z12 (6 : Int)))] [] g10 l11 (fun r g16 l17 => ∃ z18, r = some (iq_i z18) ∧ (Q (some (iq_i z18)) g16 l17))))))) ∧
              (z12 = (-1 : Int) → (iq_P N xs 98 0 [some (iq_r 77), some (iq_i 6)] [] g10 l11 (fun r g19 l20 => ∃ z21, r = some (iq_i z21) ∧ (Q (some (iq_i z21)) g19 l20)))))))) ∧
          ((1 : Int) < a1 → (iq_P N xs 98 0 [some (iq_r 77), some (iq_i 1)] [] g1 l2 (fun r g22 l23 => ∃ z24, r = some (iq_i z24) ∧ (Q (some (iq_i z24)) g22 l23))))))))))) :
    iq_P N xs 253 0 [some (iq_r 77), some (iq_i a0), some (iq_i a1), none] [] g l Q := iq_w_ok (cuts := []) 25 0 _ _ _ _ H

-- ScaleForge.keyTones()I at 0
set_option maxRecDepth 20000 in
theorem B254_0 {N : Nat} {xs : Nat → Int32} {Q : iq_T} (g : iq_I) (l : iq_J) (H : iq_P N xs 254 4 [some (iq_r 0), some (iq_l (0 : Int64)), none, some (iq_i 0), none] [] g l Q) :
    iq_P N xs 254 0 [some (iq_r 0), none, none, none, none] [] g l Q := iq_w_ok (cuts := [4, 13]) 4 0 _ _ _ _ H

-- ScaleForge.keyTones()I at 4
set_option maxRecDepth 20000 in
theorem B254_p4_0 {N : Nat} {xs : Nat → Int32} {Q : iq_T} (v1 : Int64) (v3 : Int) (d4 : Option iq_V) (g : iq_I) (l : iq_J) (H : (-2147483648 ≤ v3 ∧ v3 ≤ 2147483647) ∧
    ((6 : Int) ≤ v3 → (iq_P N xs 88 0 [some (iq_l v1), none] [] g l (fun r g1 l2 => ∃ z3, r = some (iq_i z3) ∧ (iq_P N xs 90 0 [some (iq_r 0), some (iq_i z3)] [] g1 l2 (fun r g4 l5 => ∃ z6, r = some (iq_i z6) ∧ (Q (some (iq_i z6)) g4 l5)))))) ∧
    (v3 < (6 : Int) → (iq_P N xs 254 13 [some (iq_r 0), some (iq_l v1), none, some (iq_i v3), some (iq_i 0)] [] g l Q))) :
    iq_P N xs 254 4 [some (iq_r 0), some (iq_l v1), none, some (iq_i v3), d4] [] g l Q := iq_w_ok (cuts := [4, 13]) 8 4 _ _ _ _ H

-- ScaleForge.keyTones()I at 13
set_option maxRecDepth 20000 in
theorem B254_p13_0 {N : Nat} {xs : Nat → Int32} {Q : iq_T} (v1 : Int64) (v3 : Int) (v4 : Int) (g : iq_I) (l : iq_J) (H : (-2147483648 ≤ v4 ∧ v4 ≤ 2147483647) ∧
    ((12 : Int) ≤ v4 → (iq_P N xs 254 4 [some (iq_r 0), some (iq_l v1), none, some (iq_i (v3 + 1)), some (iq_i v4)] [] g l Q)) ∧
    (v4 < (12 : Int) → (iq_P N xs 245 0 [some (iq_r 23), some (iq_i v4), some (iq_i v3)] [] g l (fun r g1 l2 => ∃ z3, r = some (iq_i z3) ∧ (iq_P N xs 254 13 [some (iq_r 0), some (iq_l (v1 ||| (iq_lsl (1 : Int64) z3))), none, some (iq_i v3), some (iq_i (v4 + 1))] [] g1 l2 Q))))) :
    iq_P N xs 254 13 [some (iq_r 0), some (iq_l v1), none, some (iq_i v3), some (iq_i v4)] [] g l Q := iq_w_ok (cuts := [4, 13]) 15 13 _ _ _ _ H

-- ScaleForgeModel.keyTones()I at 0
set_option maxRecDepth 20000 in
theorem B255_77 {N : Nat} {xs : Nat → Int32} {Q : iq_T} (g : iq_I) (l : iq_J) (H : iq_P N xs 255 4 [some (iq_r 77), some (iq_i 0), some (iq_i 0)] [] g l Q) :
    iq_P N xs 255 0 [some (iq_r 77), none, none] [] g l Q := iq_w_ok (cuts := [4]) 4 0 _ _ _ _ H

-- ScaleForgeModel.keyTones()I at 4
set_option maxRecDepth 20000 in
theorem B255_p4_77 {N : Nat} {xs : Nat → Int32} {Q : iq_T} (v1 : Int) (v2 : Int) (g : iq_I) (l : iq_J) (H : (-2147483648 ≤ v2 ∧ v2 ≤ 2147483647 ∧ -2147483648 ≤ (g 78 1) ∧ (g 78 1) ≤ 2147483647) ∧
    ((g 78 1) ≤ v2 → (iq_P N xs 115 0 [some (iq_r 77), some (iq_i v1)] [] g l (fun r g1 l2 => ∃ z3, r = some (iq_i z3) ∧ (Q (some (iq_i z3)) g1 l2)))) ∧
    (v2 < (g 78 1) → (iq_P N xs 252 0 [some (iq_r 77), some (iq_i v2), none, none] [] g l (fun r g4 l5 => ∃ z6, r = some (iq_i z6) ∧ ((-2147483648 ≤ z6 ∧ z6 ≤ 2147483647) ∧
        (¬ z6 = (-1 : Int) → (iq_P N xs 255 4 [some (iq_r 77), some (iq_i (v1 + 1)), some (iq_i (v2 + 1))] [] g4 l5 Q)) ∧
        (z6 = (-1 : Int) → (iq_P N xs 255 4 [some (iq_r 77), some (iq_i (v1 + 0)), some (iq_i (v2 + 1))] [] g4 l5 Q))))))) :
    iq_P N xs 255 4 [some (iq_r 77), some (iq_i v1), some (iq_i v2)] [] g l Q := iq_w_ok (cuts := [4]) 18 4 _ _ _ _ H

-- ScaleForge.nearest(I)I at 0
set_option maxRecDepth 20000 in
theorem B256_0 {N : Nat} {xs : Nat → Int32} {Q : iq_T} (a0 : Int) (g : iq_I) (l : iq_J) (H : iq_P N xs 77 0 [some (iq_r 23), some (iq_i a0)] [] g l (fun r g1 l2 => ∃ z3, r = some (iq_i z3) ∧ ((-2147483648 ≤ z3 ∧ z3 ≤ 2147483647) ∧
      (¬ z3 = (0 : Int) → (iq_P N xs 256 19 [some (iq_r 0), some (iq_i a0), some (iq_i 0), none, none] [] g1 l2 Q)) ∧
      (z3 = (0 : Int) → (iq_P N xs 44 0 [some (iq_r 0), some (iq_i 1)] [] g1 l2 (fun r g4 l5 => ∃ z6, r = some (iq_i z6) ∧ (Q (some (iq_i z6)) g4 l5))))))) :
    iq_P N xs 256 0 [some (iq_r 0), some (iq_i a0), none, none, none] [] g l Q := iq_w_ok (cuts := [19]) 9 0 _ _ _ _ H

-- ScaleForge.nearest(I)I at 19
set_option maxRecDepth 20000 in
theorem B256_p19_0 {N : Nat} {xs : Nat → Int32} {Q : iq_T} (v1 : Int) (v2 : Int) (d3 : Option iq_V) (d4 : Option iq_V) (g : iq_I) (l : iq_J) (H : (-2147483648 ≤ v2 ∧ v2 ≤ 2147483647) ∧
    ((60 : Int) ≤ v2 → (iq_P N xs 44 0 [some (iq_r 0), some (iq_i 6)] [] g l (fun r g1 l2 => ∃ z3, r = some (iq_i z3) ∧ (Q (some (iq_i z3)) g1 l2)))) ∧
    (v2 < (60 : Int) → (iq_P N xs 5 0 [some (iq_r 23), some (iq_i (v1 - v2)), none] [] g l (fun r g4 l5 => ∃ z6, r = some (iq_i z6) ∧ (iq_P N xs 155 0 [some (iq_r 23), some (iq_i z6)] [] g4 l5 (fun r g7 l8 => ∃ z9, r = some (iq_i z9) ∧ ((-2147483648 ≤ z9 ∧ z9 ≤ 2147483647) ∧
          (z9 = (0 : Int) → (iq_P N xs 5 0 [some (iq_r 23), some (iq_i (v1 + v2)), none] [] g7 l8 (fun r g10 l11 => ∃ z12, r = some (iq_i z12) ∧ (iq_P N xs 155 0 [some (iq_r 23), some (iq_i z12)] [] g10 l11 (fun r g13 l14 => ∃ z15, r = some (iq_i z15) ∧ ((-2147483648 ≤ z15 ∧ z15 ≤ 2147483647) ∧
                (z15 = (0 : Int) → (iq_P N xs 256 19 [some (iq_r 0), some (iq_i v1), some (iq_i (v2 + 1)), some (iq_i z6), some (iq_i z12)] [] g13 l14 Q)) ∧
                (¬ z15 = (0 : Int) → (iq_P N xs 156 0 [some (iq_r 0), some (iq_i z12)] [] g13 l14 (fun r g16 l17 => ∃ z18, r = some (iq_i z18) ∧ (iq_P N xs 90 0 [some (iq_r 0), some (iq_i z18)] [] g16 l17 (fun r g19 l20 => ∃ z21, r = some (iq_i z21) ∧ (Q (some (iq_i z21)) g19 l20)))))))))))) ∧
          (¬ z9 = (0 : Int) → (iq_P N xs 156 0 [some (iq_r 0), some (iq_i z6)] [] g7 l8 (fun r g22 l23 => ∃ z24, r = some (iq_i z24) ∧ (iq_P N xs 90 0 [some (iq_r 0), some (iq_i z24)] [] g22 l23 (fun r g25 l26 => ∃ z27, r = some (iq_i z27) ∧ (Q (some (iq_i z27)) g25 l26))))))))))))) :
    iq_P N xs 256 19 [some (iq_r 0), some (iq_i v1), some (iq_i v2), d3, d4] [] g l Q := iq_w_ok (cuts := [19]) 33 19 _ _ _ _ H

-- ScaleForgeModel.nearest(I)I at 0
set_option maxRecDepth 20000 in
theorem B257_77 {N : Nat} {xs : Nat → Int32} {Q : iq_T} (a0 : Int) (g : iq_I) (l : iq_J) (H : iq_P N xs 158 0 [some (iq_r 77), some (iq_i a0)] [] g l (fun r g1 l2 => ∃ z3, r = some (iq_i z3) ∧ ((-2147483648 ≤ z3 ∧ z3 ≤ 2147483647) ∧
      (¬ z3 = (0 : Int) → (iq_P N xs 114 0 [some (iq_r 77)] [] g1 l2 (fun r g4 l5 => r = none ∧ (iq_P N xs 257 20 [some (iq_r 77), some (iq_i a0), some (iq_i 0), none, none] [] g4 l5 Q)))) ∧
      (z3 = (0 : Int) → (iq_P N xs 98 0 [some (iq_r 77), some (iq_i 1)] [] g1 l2 (fun r g6 l7 => ∃ z8, r = some (iq_i z8) ∧ (Q (some (iq_i z8)) g6 l7))))))) :
    iq_P N xs 257 0 [some (iq_r 77), some (iq_i a0), none, none, none] [] g l Q := iq_w_ok (cuts := [20]) 8 0 _ _ _ _ H

-- ScaleForgeModel.nearest(I)I at 20
set_option maxRecDepth 20000 in
theorem B257_p20_77 {N : Nat} {xs : Nat → Int32} {Q : iq_T} (v1 : Int) (v2 : Int) (d3 : Option iq_V) (d4 : Option iq_V) (g : iq_I) (l : iq_J) (H : (-2147483648 ≤ v2 ∧ v2 ≤ 2147483647 ∧ -2147483648 ≤ (g 78 1) ∧ (g 78 1) ≤ 2147483647) ∧
    ((g 78 1) ≤ v2 → (iq_P N xs 98 0 [some (iq_r 77), some (iq_i 6)] [] g l (fun r g1 l2 => ∃ z3, r = some (iq_i z3) ∧ (Q (some (iq_i z3)) g1 l2)))) ∧
    (v2 < (g 78 1) → (iq_P N xs 111 0 [some (iq_i (v1 - v2)), some (iq_i (g 78 1)), none] [] g l (fun r g4 l5 => ∃ z6, r = some (iq_i z6) ∧ ((0 ≤ z6 ∧ z6 < 60) ∧ (iq_P N xs 111 0 [some (iq_i (v1 + v2)), some (iq_i (g4 78 1)), none] [] g4 l5 (fun r g7 l8 => ∃ z9, r = some (iq_i z9) ∧ ((0 ≤ z9 ∧ z9 < 60) ∧ ((-2147483648 ≤ (g4 87 z6) ∧ (g4 87 z6) ≤ 2147483647) ∧
          ((g4 87 z6) = (-1 : Int) → ((-2147483648 ≤ (g7 87 z9) ∧ (g7 87 z9) ≤ 2147483647) ∧
            ((g7 87 z9) = (-1 : Int) → (iq_P N xs 257 20 [some (iq_r 77), some (iq_i v1), some (iq_i (v2 + 1)), some (iq_i (g4 87 z6)), some (iq_i (g7 87 z9))] [] g7 l8 Q)) ∧
            (¬ (g7 87 z9) = (-1 : Int) → (iq_P N xs 115 0 [some (iq_r 77), some (iq_i (g7 87 z9))] [] g7 l8 (fun r g10 l11 => ∃ z12, r = some (iq_i z12) ∧ (Q (some (iq_i z12)) g10 l11)))))) ∧
          (¬ (g4 87 z6) = (-1 : Int) → (iq_P N xs 115 0 [some (iq_r 77), some (iq_i (g4 87 z6))] [] g7 l8 (fun r g13 l14 => ∃ z15, r = some (iq_i z15) ∧ (Q (some (iq_i z15)) g13 l14))))))))))))) :
    iq_P N xs 257 20 [some (iq_r 77), some (iq_i v1), some (iq_i v2), d3, d4] [] g l Q := iq_w_ok (cuts := [20]) 40 20 _ _ _ _ H

-- ScaleForge.fit()I at 0
set_option maxRecDepth 20000 in
theorem B258_0 {N : Nat} {xs : Nat → Int32} {Q : iq_T} (g : iq_I) (l : iq_J) (H : iq_P N xs 189 0 [some (iq_r 23)] [] g l (fun r g1 l2 => ∃ z3, r = some (iq_i z3) ∧ (iq_P N xs 90 0 [some (iq_r 0), some (iq_i z3)] [] g1 l2 (fun r g4 l5 => ∃ z6, r = some (iq_i z6) ∧ (Q (some (iq_i z6)) g4 l5))))) :
    iq_P N xs 258 0 [some (iq_r 0)] [] g l Q := iq_w_ok (cuts := []) 6 0 _ _ _ _ H

-- ScaleForgeModel.fit()I at 0
set_option maxRecDepth 20000 in
theorem B259_77 {N : Nat} {xs : Nat → Int32} {Q : iq_T} (g : iq_I) (l : iq_J) (H : iq_P N xs 194 0 [some (iq_r 77)] [] g l (fun r g1 l2 => ∃ z3, r = some (iq_i z3) ∧ (iq_P N xs 115 0 [some (iq_r 77), some (iq_i z3)] [] g1 l2 (fun r g4 l5 => ∃ z6, r = some (iq_i z6) ∧ (Q (some (iq_i z6)) g4 l5))))) :
    iq_P N xs 259 0 [some (iq_r 77)] [] g l Q := iq_w_ok (cuts := []) 5 0 _ _ _ _ H

-- ScaleForge.bestRoot()I at 0
set_option maxRecDepth 20000 in
theorem B260_0 {N : Nat} {xs : Nat → Int32} {Q : iq_T} (g : iq_I) (l : iq_J) (H : iq_P N xs 135 0 [some (iq_r 23), some (iq_i 2)] [] g l (fun r g1 l2 => ∃ z3, r = some (iq_i z3) ∧ (iq_P N xs 135 0 [some (iq_r 23), some (iq_i 3)] [] g1 l2 (fun r g4 l5 => ∃ z6, r = some (iq_i z6) ∧ (iq_P N xs 8 0 [some (iq_r 23), some (iq_i z3), some (iq_i 0), some (iq_i z6), none, none, none, none] [] g4 l5 (fun r g7 l8 => ∃ x9, r = some (iq_l x9) ∧ (iq_P N xs 260 33 [some (iq_r 0), some (iq_l x9), none, some (iq_i 0), some (iq_i (-1)), some (iq_i 0), none] [] g7 l8 Q))))))) :
    iq_P N xs 260 0 [some (iq_r 0), none, none, none, none, none, none] [] g l Q := iq_w_ok (cuts := [33]) 19 0 _ _ _ _ H

-- ScaleForge.bestRoot()I at 33
set_option maxRecDepth 20000 in
theorem B260_p33_0 {N : Nat} {xs : Nat → Int32} {Q : iq_T} (v1 : Int64) (v3 : Int) (v4 : Int) (v5 : Int) (d6 : Option iq_V) (g : iq_I) (l : iq_J) (H : iq_P N xs 80 0 [some (iq_r 23)] [] g l (fun r g1 l2 => ∃ z3, r = some (iq_i z3) ∧ ((-2147483648 ≤ v5 ∧ v5 ≤ 2147483647 ∧ -2147483648 ≤ z3 ∧ z3 ≤ 2147483647) ∧
      (z3 ≤ v5 → (iq_P N xs 90 0 [some (iq_r 0), some (iq_i v3)] [] g1 l2 (fun r g4 l5 => ∃ z6, r = some (iq_i z6) ∧ (Q (some (iq_i z6)) g4 l5)))) ∧
      (v5 < z3 → (iq_P N xs 80 0 [some (iq_r 23)] [] g1 l2 (fun r g7 l8 => ∃ z9, r = some (iq_i z9) ∧ (iq_P N xs 188 0 [some (iq_l v1), none, some (iq_i v5), some (iq_i z9)] [] g7 l8 (fun r g10 l11 => ∃ x12, r = some (iq_l x12) ∧ (iq_P N xs 88 0 [some (iq_l (x12 &&& (l11 23 3))), none] [] g10 l11 (fun r g13 l14 => ∃ z15, r = some (iq_i z15) ∧ ((-2147483648 ≤ z15 ∧ z15 ≤ 2147483647 ∧ -2147483648 ≤ v4 ∧ v4 ≤ 2147483647) ∧
              (z15 ≤ v4 → (iq_P N xs 260 33 [some (iq_r 0), some (iq_l v1), none, some (iq_i v3), some (iq_i v4), some (iq_i (v5 + 1)), some (iq_i z15)] [] g13 l14 Q)) ∧
              (v4 < z15 → (iq_P N xs 260 33 [some (iq_r 0), some (iq_l v1), none, some (iq_i v5), some (iq_i z15), some (iq_i (v5 + 1)), some (iq_i z15)] [] g13 l14 Q))))))))))))) :
    iq_P N xs 260 33 [some (iq_r 0), some (iq_l v1), none, some (iq_i v3), some (iq_i v4), some (iq_i v5), d6] [] g l Q := iq_w_ok (cuts := [33]) 26 33 _ _ _ _ H

-- ScaleForgeModel.bestRoot()I at 0
set_option maxRecDepth 20000 in
theorem B261_77 {N : Nat} {xs : Nat → Int32} {Q : iq_T} (g : iq_I) (l : iq_J) (H : iq_P N xs 261 6 [some (iq_r 77), some (iq_i 0), some (iq_i (-1)), some (iq_i 0)] [] g l Q) :
    iq_P N xs 261 0 [some (iq_r 77), none, none, none] [] g l Q := iq_w_ok (cuts := [6]) 6 0 _ _ _ _ H

-- ScaleForgeModel.bestRoot()I at 6
set_option maxRecDepth 20000 in
theorem B261_p6_77 {N : Nat} {xs : Nat → Int32} {Q : iq_T} (v1 : Int) (v2 : Int) (v3 : Int) (g : iq_I) (l : iq_J) (H : (-2147483648 ≤ v3 ∧ v3 ≤ 2147483647 ∧ -2147483648 ≤ (g 78 1) ∧ (g 78 1) ≤ 2147483647) ∧
    ((g 78 1) ≤ v3 → (iq_P N xs 115 0 [some (iq_r 77), some (iq_i v1)] [] g l (fun r g1 l2 => ∃ z3, r = some (iq_i z3) ∧ (Q (some (iq_i z3)) g1 l2)))) ∧
    (v3 < (g 78 1) → (iq_P N xs 192 0 [some (iq_r 77), some (iq_i (g 78 2)), some (iq_i v3), none, none] [] g l (fun r g4 l5 => r = none ∧ (iq_P N xs 193 0 [some (iq_r 77), none, none] [] g4 l5 (fun r g6 l7 => ∃ z8, r = some (iq_i z8) ∧ ((-2147483648 ≤ z8 ∧ z8 ≤ 2147483647 ∧ -2147483648 ≤ v2 ∧ v2 ≤ 2147483647) ∧
          (v2 < z8 → (iq_P N xs 193 0 [some (iq_r 77), none, none] [] g6 l7 (fun r g9 l10 => ∃ z11, r = some (iq_i z11) ∧ (iq_P N xs 261 6 [some (iq_r 77), some (iq_i v3), some (iq_i z11), some (iq_i (v3 + 1))] [] g9 l10 Q)))) ∧
          (z8 ≤ v2 → (iq_P N xs 261 6 [some (iq_r 77), some (iq_i v1), some (iq_i v2), some (iq_i (v3 + 1))] [] g6 l7 Q))))))))) :
    iq_P N xs 261 6 [some (iq_r 77), some (iq_i v1), some (iq_i v2), some (iq_i v3)] [] g l Q := iq_w_ok (cuts := [6]) 24 6 _ _ _ _ H

-- ScaleForge$Guessing.reachOf(LScaleForge$Scale;I)J at 0
set_option maxRecDepth 20000 in
theorem B262_23 {N : Nat} {xs : Nat → Int32} {Q : iq_T} (a0 : Int) (g : iq_I) (l : iq_J) (H : iq_P N xs 135 0 [some (iq_r 23), some (iq_i 3)] [] g l (fun r g1 l2 => ∃ z3, r = some (iq_i z3) ∧ (iq_P N xs 8 0 [some (iq_r 23), some (iq_i a0), some (iq_i 0), some (iq_i z3), none, none, none, none] [] g1 l2 (fun r g4 l5 => ∃ x6, r = some (iq_l x6) ∧ (iq_P N xs 262 18 [some (iq_r 23), some (iq_i a0), some (iq_l x6), none, some (iq_l (0 : Int64)), none, some (iq_i 0), none, none] [] g4 l5 Q))))) :
    iq_P N xs 262 0 [some (iq_r 23), some (iq_i a0), none, none, none, none, none, none, none] [] g l Q := iq_w_ok (cuts := [18]) 12 0 _ _ _ _ H

-- ScaleForge$Guessing.reachOf(LScaleForge$Scale;I)J at 18
set_option maxRecDepth 20000 in
theorem B262_p18_23 {N : Nat} {xs : Nat → Int32} {Q : iq_T} (v1 : Int) (v2 : Int64) (v4 : Int64) (v6 : Int) (d7 : Option iq_V) (g : iq_I) (l : iq_J) (H : iq_P N xs 80 0 [some (iq_r 23)] [] g l (fun r g1 l2 => ∃ z3, r = some (iq_i z3) ∧ ((-2147483648 ≤ v6 ∧ v6 ≤ 2147483647 ∧ -2147483648 ≤ z3 ∧ z3 ≤ 2147483647) ∧
      (z3 ≤ v6 → (Q (some (iq_l v4)) g1 l2)) ∧
      (v6 < z3 → (iq_P N xs 80 0 [some (iq_r 23)] [] g1 l2 (fun r g4 l5 => ∃ z6, r = some (iq_i z6) ∧ (iq_P N xs 188 0 [some (iq_l v2), none, some (iq_i v6), some (iq_i z6)] [] g4 l5 (fun r g7 l8 => ∃ x9, r = some (iq_l x9) ∧ ((-2147483648 ≤ (iq_lc ((l8 23 3) &&& (x9 ^^^ (Int64.ofNat 18446744073709551615))) (0 : Int64)) ∧ (iq_lc ((l8 23 3) &&& (x9 ^^^ (Int64.ofNat 18446744073709551615))) (0 : Int64)) ≤ 2147483647) ∧
            (¬ (iq_lc ((l8 23 3) &&& (x9 ^^^ (Int64.ofNat 18446744073709551615))) (0 : Int64)) = (0 : Int) → (iq_P N xs 262 18 [some (iq_r 23), some (iq_i v1), some (iq_l v2), none, some (iq_l (v4 ||| (0 : Int64))), none, some (iq_i (v6 + 1)), some (iq_l x9), none] [] g7 l8 Q)) ∧
            ((iq_lc ((l8 23 3) &&& (x9 ^^^ (Int64.ofNat 18446744073709551615))) (0 : Int64)) = (0 : Int) → (iq_P N xs 262 18 [some (iq_r 23), some (iq_i v1), some (iq_l v2), none, some (iq_l (v4 ||| x9)), none, some (iq_i (v6 + 1)), some (iq_l x9), none] [] g7 l8 Q))))))))))) :
    iq_P N xs 262 18 [some (iq_r 23), some (iq_i v1), some (iq_l v2), none, some (iq_l v4), none, some (iq_i v6), d7, none] [] g l Q := iq_w_ok (cuts := [18]) 26 18 _ _ _ _ H

-- ScaleForge$Guessing.search(LScaleForge$Scale;)V at 0
set_option maxRecDepth 20000 in
theorem B263_33_23 {N : Nat} {xs : Nat → Int32} {Q : iq_T} (g : iq_I) (l : iq_J) (H : iq_P N xs 263 7 [some (iq_r 33), some (iq_r 23), some (iq_i 0)] [] g (iq_uz l 33 1 (0 : Int64)) Q) :
    iq_P N xs 263 0 [some (iq_r 33), some (iq_r 23), none] [] g l Q := iq_w_ok (cuts := [7]) 5 0 _ _ _ _ H

-- ScaleForge$Guessing.search(LScaleForge$Scale;)V at 7
set_option maxRecDepth 20000 in
theorem B263_p7_33_23 {N : Nat} {xs : Nat → Int32} {Q : iq_T} (v2 : Int) (g : iq_I) (l : iq_J) (H : iq_P N xs 80 0 [some (iq_r 23)] [] g l (fun r g1 l2 => ∃ z3, r = some (iq_i z3) ∧ ((-2147483648 ≤ v2 ∧ v2 ≤ 2147483647 ∧ -2147483648 ≤ z3 ∧ z3 ≤ 2147483647) ∧
      (z3 ≤ v2 → (Q (none) g1 l2)) ∧
      (v2 < z3 → ((-2147483648 ≤ v2 ∧ v2 ≤ 2147483647) ∧
        ((60 : Int) ≤ v2 → (Q (none) g1 l2)) ∧
        (v2 < (60 : Int) → (iq_P N xs 262 0 [some (iq_r 23), some (iq_i v2), none, none, none, none, none, none, none] [] g1 l2 (fun r g4 l5 => ∃ x6, r = some (iq_l x6) ∧ ((0 ≤ v2 ∧ v2 < 60) ∧ ((0 ≤ v2 ∧ v2 < 60) ∧ ((-2147483648 ≤ (iq_lc ((iq_uz l5 34 v2 x6) 34 v2) (0 : Int64)) ∧ (iq_lc ((iq_uz l5 34 v2 x6) 34 v2) (0 : Int64)) ≤ 2147483647) ∧
            ((iq_lc ((iq_uz l5 34 v2 x6) 34 v2) (0 : Int64)) = (0 : Int) → (iq_P N xs 263 7 [some (iq_r 33), some (iq_r 23), some (iq_i (v2 + 1))] [] g4 (iq_uz (iq_uz l5 34 v2 x6) 33 1 ((l5 33 1) ||| (0 : Int64))) Q)) ∧
            (¬ (iq_lc ((iq_uz l5 34 v2 x6) 34 v2) (0 : Int64)) = (0 : Int) → (iq_P N xs 6 0 [some (iq_i v2)] [] g4 (iq_uz l5 34 v2 x6) (fun r g7 l8 => ∃ x9, r = some (iq_l x9) ∧ (iq_P N xs 263 7 [some (iq_r 33), some (iq_r 23), some (iq_i (v2 + 1))] [] g7 (iq_uz l8 33 1 ((l5 33 1) ||| x9)) Q))))))))))))))) :
    iq_P N xs 263 7 [some (iq_r 33), some (iq_r 23), some (iq_i v2)] [] g l Q := iq_w_ok (cuts := [7]) 33 7 _ _ _ _ H

-- ScaleForge.guesses()I at 0
set_option maxRecDepth 20000 in
theorem B264_0 {N : Nat} {xs : Nat → Int32} {Q : iq_T} (g : iq_I) (l : iq_J) (H : iq_P N xs 263 0 [some (iq_r 33), some (iq_r 23), none] [] g l (fun r g1 l2 => r = none ∧ (iq_P N xs 88 0 [some (iq_l (l2 33 1)), none] [] g1 l2 (fun r g3 l4 => ∃ z5, r = some (iq_i z5) ∧ (iq_P N xs 90 0 [some (iq_r 0), some (iq_i z5)] [] g3 l4 (fun r g6 l7 => ∃ z8, r = some (iq_i z8) ∧ (Q (some (iq_i z8)) g6 l7))))))) :
    iq_P N xs 264 0 [some (iq_r 0)] [] g l Q := iq_w_ok (cuts := []) 12 0 _ _ _ _ H

-- ScaleForgeModel.laysGuesses()I at 0
set_option maxRecDepth 20000 in
theorem B265_77 {N : Nat} {xs : Nat → Int32} {Q : iq_T} (g : iq_I) (l : iq_J) (H : iq_P N xs 144 0 [some (iq_r 77), none, none] [] g l (fun r g1 l2 => ∃ z3, r = some (iq_i z3) ∧ (iq_P N xs 265 9 [some (iq_r 77), some (iq_i 0), some (iq_i z3), some (iq_i 0), none, none] [] g1 l2 Q))) :
    iq_P N xs 265 0 [some (iq_r 77), none, none, none, none, none] [] g l Q := iq_w_ok (cuts := [9, 31, 51, 90]) 7 0 _ _ _ _ H

-- ScaleForgeModel.laysGuesses()I at 9
set_option maxRecDepth 20000 in
theorem B265_p9_77 {N : Nat} {xs : Nat → Int32} {Q : iq_T} (v1 : Int) (v2 : Int) (v3 : Int) (g : iq_I) (l : iq_J) (H : (-2147483648 ≤ v3 ∧ v3 ≤ 2147483647) ∧
    ((3600 : Int) ≤ v3 → (iq_P N xs 265 31 [some (iq_r 77), some (iq_i v1), some (iq_i v2), some (iq_i 0), none, none] [] g l Q)) ∧
    (v3 < (3600 : Int) → ((0 ≤ v3 ∧ v3 < 3600) ∧ (iq_P N xs 265 9 [some (iq_r 77), some (iq_i v1), some (iq_i v2), some (iq_i (v3 + 1)), none, none] [] (iq_uz g 96 v3 0) l Q)))) :
    iq_P N xs 265 9 [some (iq_r 77), some (iq_i v1), some (iq_i v2), some (iq_i v3), none, none] [] g l Q := iq_w_ok (cuts := [9, 31, 51, 90]) 10 9 _ _ _ _ H

-- ScaleForgeModel.laysGuesses()I at 31
set_option maxRecDepth 20000 in
theorem B265_p31_77 {N : Nat} {xs : Nat → Int32} {Q : iq_T} (v1 : Int) (v2 : Int) (v3 : Int) (d4 : Option iq_V) (d5 : Option iq_V) (g : iq_I) (l : iq_J) (H : (-2147483648 ≤ v3 ∧ v3 ≤ 2147483647 ∧ -2147483648 ≤ (g 78 1) ∧ (g 78 1) ≤ 2147483647) ∧
    ((g 78 1) ≤ v3 → (Q (some (iq_i v1)) g l)) ∧
    (v3 < (g 78 1) → ((0 ≤ v3 ∧ v3 < 60) ∧ (iq_P N xs 265 51 [some (iq_r 77), some (iq_i v1), some (iq_i v2), some (iq_i v3), some (iq_i 0), (iq_nv d5)] [] (iq_uz g 95 v3 0) l Q)))) :
    iq_P N xs 265 31 [some (iq_r 77), some (iq_i v1), some (iq_i v2), some (iq_i v3), d4, d5] [] g l Q := iq_w_ok (cuts := [9, 31, 51, 90]) 13 31 _ _ _ _ H

-- ScaleForgeModel.laysGuesses()I at 51
set_option maxRecDepth 20000 in
theorem B265_p51_77 {N : Nat} {xs : Nat → Int32} {Q : iq_T} (v1 : Int) (v2 : Int) (v3 : Int) (v4 : Int) (d5 : Option iq_V) (g : iq_I) (l : iq_J) (H : (-2147483648 ≤ v4 ∧ v4 ≤ 2147483647 ∧ -2147483648 ≤ (g 78 1) ∧ (g 78 1) ≤ 2147483647) ∧
    ((g 78 1) ≤ v4 → ((0 ≤ v3 ∧ v3 < 60) ∧ ((-2147483648 ≤ (g 95 v3) ∧ (g 95 v3) ≤ 2147483647) ∧
      ((g 95 v3) = (0 : Int) → (iq_P N xs 265 31 [some (iq_r 77), some (iq_i (v1 + 0)), some (iq_i v2), some (iq_i (v3 + 1)), some (iq_i v4), (iq_nv d5)] [] g l Q)) ∧
      (¬ (g 95 v3) = (0 : Int) → (iq_P N xs 265 31 [some (iq_r 77), some (iq_i (v1 + 1)), some (iq_i v2), some (iq_i (v3 + 1)), some (iq_i v4), (iq_nv d5)] [] g l Q))))) ∧
    (v4 < (g 78 1) → (iq_P N xs 192 0 [some (iq_r 77), some (iq_i v3), some (iq_i v4), none, none] [] g l (fun r g1 l2 => r = none ∧ (iq_P N xs 193 0 [some (iq_r 77), none, none] [] g1 l2 (fun r g3 l4 => ∃ z5, r = some (iq_i z5) ∧ ((-2147483648 ≤ z5 ∧ z5 ≤ 2147483647 ∧ -2147483648 ≤ v2 ∧ v2 ≤ 2147483647) ∧
          (v2 ≤ z5 → ((0 ≤ v3 ∧ v3 < 60) ∧ (iq_P N xs 265 90 [some (iq_r 77), some (iq_i v1), some (iq_i v2), some (iq_i v3), some (iq_i v4), some (iq_i 0)] [] (iq_uz g3 95 v3 1) l4 Q))) ∧
          (z5 < v2 → (iq_P N xs 265 51 [some (iq_r 77), some (iq_i v1), some (iq_i v2), some (iq_i v3), some (iq_i (v4 + 1)), (iq_nv d5)] [] g3 l4 Q))))))))) :
    iq_P N xs 265 51 [some (iq_r 77), some (iq_i v1), some (iq_i v2), some (iq_i v3), some (iq_i v4), d5] [] g l Q := iq_w_ok (cuts := [9, 31, 51, 90]) 21 51 _ _ _ _ H

-- ScaleForgeModel.laysGuesses()I at 90
set_option maxRecDepth 20000 in
theorem B265_p90_77 {N : Nat} {xs : Nat → Int32} {Q : iq_T} (v1 : Int) (v2 : Int) (v3 : Int) (v4 : Int) (v5 : Int) (g : iq_I) (l : iq_J) (H : (-2147483648 ≤ v5 ∧ v5 ≤ 2147483647) ∧
    ((60 : Int) ≤ v5 → (iq_P N xs 265 51 [some (iq_r 77), some (iq_i v1), some (iq_i v2), some (iq_i v3), some (iq_i (v4 + 1)), some (iq_i v5)] [] g l Q)) ∧
    (v5 < (60 : Int) → ((0 ≤ ((60 * v3) + v5) ∧ ((60 * v3) + v5) < 3600) ∧ ((0 ≤ v5 ∧ v5 < 60) ∧ ((0 ≤ ((60 * v3) + v5) ∧ ((60 * v3) + v5) < 3600) ∧ (((iq_or (g 96 ((60 * v3) + v5)) (g 89 v5)) = 0 ∨ (iq_or (g 96 ((60 * v3) + v5)) (g 89 v5)) = 1) ∧ (iq_P N xs 265 90 [some (iq_r 77), some (iq_i v1), some (iq_i v2), some (iq_i v3), some (iq_i v4), some (iq_i (v5 + 1))] [] (iq_uz g 96 ((60 * v3) + v5) (iq_or (g 96 ((60 * v3) + v5)) (g 89 v5))) l Q))))))) :
    iq_P N xs 265 90 [some (iq_r 77), some (iq_i v1), some (iq_i v2), some (iq_i v3), some (iq_i v4), some (iq_i v5)] [] g l Q := iq_w_ok (cuts := [9, 31, 51, 90]) 20 90 _ _ _ _ H

-- ScaleForgeModel.guesses()I at 0
set_option maxRecDepth 20000 in
theorem B266_77 {N : Nat} {xs : Nat → Int32} {Q : iq_T} (g : iq_I) (l : iq_J) (H : iq_P N xs 265 0 [some (iq_r 77), none, none, none, none, none] [] g l (fun r g1 l2 => ∃ z3, r = some (iq_i z3) ∧ (iq_P N xs 115 0 [some (iq_r 77), some (iq_i z3)] [] g1 l2 (fun r g4 l5 => ∃ z6, r = some (iq_i z6) ∧ (Q (some (iq_i z6)) g4 l5))))) :
    iq_P N xs 266 0 [some (iq_r 77)] [] g l Q := iq_w_ok (cuts := []) 5 0 _ _ _ _ H

-- ScaleForge.guessAt(I)I at 0
set_option maxRecDepth 20000 in
theorem B267_0 {N : Nat} {xs : Nat → Int32} {Q : iq_T} (a0 : Int) (g : iq_I) (l : iq_J) (H : iq_P N xs 263 0 [some (iq_r 33), some (iq_r 23), none] [] g l (fun r g1 l2 => r = none ∧ (iq_P N xs 166 0 [some (iq_l (l2 33 1)), none, some (iq_i a0), none, none] [] g1 l2 (fun r g3 l4 => ∃ z5, r = some (iq_i z5) ∧ (iq_P N xs 167 0 [some (iq_r 0), some (iq_i z5)] [] g3 l4 (fun r g6 l7 => ∃ z8, r = some (iq_i z8) ∧ (Q (some (iq_i z8)) g6 l7))))))) :
    iq_P N xs 267 0 [some (iq_r 0), some (iq_i a0)] [] g l Q := iq_w_ok (cuts := []) 13 0 _ _ _ _ H

-- ScaleForgeModel.guessAt(I)I at 0
set_option maxRecDepth 20000 in
theorem B268_77 {N : Nat} {xs : Nat → Int32} {Q : iq_T} (a0 : Int) (g : iq_I) (l : iq_J) (H : iq_P N xs 265 0 [some (iq_r 77), none, none, none, none, none] [] g l (fun r g1 l2 => ∃ z3, r = some (iq_i z3) ∧ (iq_P N xs 268 9 [some (iq_r 77), some (iq_i a0), some (iq_i 0), some (iq_i 0)] [] g1 l2 Q))) :
    iq_P N xs 268 0 [some (iq_r 77), some (iq_i a0), none, none] [] g l Q := iq_w_ok (cuts := [9]) 7 0 _ _ _ _ H

-- ScaleForgeModel.guessAt(I)I at 9
set_option maxRecDepth 20000 in
theorem B268_p9_77 {N : Nat} {xs : Nat → Int32} {Q : iq_T} (v1 : Int) (v2 : Int) (v3 : Int) (g : iq_I) (l : iq_J) (H : (-2147483648 ≤ v3 ∧ v3 ≤ 2147483647 ∧ -2147483648 ≤ (g 78 1) ∧ (g 78 1) ≤ 2147483647) ∧
    ((g 78 1) ≤ v3 → (iq_P N xs 98 0 [some (iq_r 77), some (iq_i 6)] [] g l (fun r g1 l2 => ∃ z3, r = some (iq_i z3) ∧ (Q (some (iq_i z3)) g1 l2)))) ∧
    (v3 < (g 78 1) → ((0 ≤ v3 ∧ v3 < 60) ∧ ((-2147483648 ≤ (g 95 v3) ∧ (g 95 v3) ≤ 2147483647) ∧
      (¬ (g 95 v3) = (0 : Int) → ((-2147483648 ≤ v2 ∧ v2 ≤ 2147483647 ∧ -2147483648 ≤ v1 ∧ v1 ≤ 2147483647) ∧
        (¬ v2 = v1 → (iq_P N xs 268 9 [some (iq_r 77), some (iq_i v1), some (iq_i (v2 + 1)), some (iq_i (v3 + 1))] [] g l Q)) ∧
        (v2 = v1 → (iq_P N xs 115 0 [some (iq_r 77), some (iq_i v3)] [] g l (fun r g4 l5 => ∃ z6, r = some (iq_i z6) ∧ (Q (some (iq_i z6)) g4 l5)))))) ∧
      ((g 95 v3) = (0 : Int) → (iq_P N xs 268 9 [some (iq_r 77), some (iq_i v1), some (iq_i v2), some (iq_i (v3 + 1))] [] g l Q)))))) :
    iq_P N xs 268 9 [some (iq_r 77), some (iq_i v1), some (iq_i v2), some (iq_i v3)] [] g l Q := iq_w_ok (cuts := [9]) 18 9 _ _ _ _ H

-- ScaleForge$Guessing.staying(II)I at 0
set_option maxRecDepth 20000 in
theorem B269_33 {N : Nat} {xs : Nat → Int32} {Q : iq_T} (a0 : Int) (a1 : Int) (g : iq_I) (l : iq_J) (H : iq_P N xs 269 5 [some (iq_r 33), some (iq_i a0), some (iq_i a1), some (iq_i 0), some (iq_i 0)] [] g l Q) :
    iq_P N xs 269 0 [some (iq_r 33), some (iq_i a0), some (iq_i a1), none, none] [] g l Q := iq_w_ok (cuts := [5]) 4 0 _ _ _ _ H

-- ScaleForge$Guessing.staying(II)I at 5
set_option maxRecDepth 20000 in
theorem B269_p5_33 {N : Nat} {xs : Nat → Int32} {Q : iq_T} (v1 : Int) (v2 : Int) (v3 : Int) (v4 : Int) (g : iq_I) (l : iq_J) (H : (-2147483648 ≤ v4 ∧ v4 ≤ 2147483647 ∧ -2147483648 ≤ v2 ∧ v2 ≤ 2147483647) ∧
    (v2 ≤ v4 → (Q (some (iq_i v3)) g l)) ∧
    (v4 < v2 → ((-2147483648 ≤ v4 ∧ v4 ≤ 2147483647) ∧
      ((60 : Int) ≤ v4 → (Q (some (iq_i v3)) g l)) ∧
      (v4 < (60 : Int) → ((0 ≤ v4 ∧ v4 < 60) ∧ (iq_P N xs 74 0 [some (iq_l (l 34 v4)), none, some (iq_i v1)] [] g l (fun r g1 l2 => ∃ z3, r = some (iq_i z3) ∧ ((-2147483648 ≤ z3 ∧ z3 ≤ 2147483647) ∧
          (z3 = (0 : Int) → (iq_P N xs 269 5 [some (iq_r 33), some (iq_i v1), some (iq_i v2), some (iq_i (v3 + 0)), some (iq_i (v4 + 1))] [] g1 l2 Q)) ∧
          (¬ z3 = (0 : Int) → (iq_P N xs 269 5 [some (iq_r 33), some (iq_i v1), some (iq_i v2), some (iq_i (v3 + 1)), some (iq_i (v4 + 1))] [] g1 l2 Q)))))))))) :
    iq_P N xs 269 5 [some (iq_r 33), some (iq_i v1), some (iq_i v2), some (iq_i v3), some (iq_i v4)] [] g l Q := iq_w_ok (cuts := [5]) 22 5 _ _ _ _ H

-- java/lang/Math.max(II)I at 0
set_option maxRecDepth 20000 in
theorem B270 {N : Nat} {xs : Nat → Int32} {Q : iq_T} (a0 : Int) (a1 : Int) (g : iq_I) (l : iq_J) (H : (-2147483648 ≤ a0 ∧ a0 ≤ 2147483647 ∧ -2147483648 ≤ a1 ∧ a1 ≤ 2147483647) ∧
    (a0 < a1 → (Q (some (iq_i a1)) g l)) ∧
    (a1 ≤ a0 → (Q (some (iq_i a0)) g l))) :
    iq_P N xs 270 0 [some (iq_i a0), some (iq_i a1)] [] g l Q := iq_w_ok (cuts := []) 6 0 _ _ _ _ H

-- ScaleForge$Guessing.bestQuestion(LScaleForge$Scale;)I at 0
set_option maxRecDepth 20000 in
theorem B271_33_23 {N : Nat} {xs : Nat → Int32} {Q : iq_T} (g : iq_I) (l : iq_J) (H : iq_P N xs 88 0 [some (iq_l (l 33 1)), none] [] g l (fun r g1 l2 => ∃ z3, r = some (iq_i z3) ∧ (iq_P N xs 271 18 [some (iq_r 33), some (iq_r 23), some (iq_i z3), some (iq_i (-1)), some (iq_i (z3 + 1)), some (iq_i 0), none, none] [] g1 l2 Q))) :
    iq_P N xs 271 0 [some (iq_r 33), some (iq_r 23), none, none, none, none, none, none] [] g l Q := iq_w_ok (cuts := [18]) 12 0 _ _ _ _ H

-- ScaleForge$Guessing.bestQuestion(LScaleForge$Scale;)I at 18
set_option maxRecDepth 20000 in
theorem B271_p18_33_23 {N : Nat} {xs : Nat → Int32} {Q : iq_T} (v2 : Int) (v3 : Int) (v4 : Int) (v5 : Int) (d6 : Option iq_V) (d7 : Option iq_V) (g : iq_I) (l : iq_J) (H : iq_P N xs 80 0 [some (iq_r 23)] [] g l (fun r g1 l2 => ∃ z3, r = some (iq_i z3) ∧ ((-2147483648 ≤ v5 ∧ v5 ≤ 2147483647 ∧ -2147483648 ≤ z3 ∧ z3 ≤ 2147483647) ∧
      (z3 ≤ v5 → (Q (some (iq_i v3)) g1 l2)) ∧
      (v5 < z3 → ((-2147483648 ≤ v2 ∧ v2 ≤ 2147483647) ∧
        (v2 ≤ (1 : Int) → (Q (some (iq_i v3)) g1 l2)) ∧
        ((1 : Int) < v2 → (iq_P N xs 74 0 [some (iq_l (l2 23 3)), none, some (iq_i v5)] [] g1 l2 (fun r g4 l5 => ∃ z6, r = some (iq_i z6) ∧ ((-2147483648 ≤ z6 ∧ z6 ≤ 2147483647) ∧
            (¬ z6 = (0 : Int) → (iq_P N xs 271 18 [some (iq_r 33), some (iq_r 23), some (iq_i v2), some (iq_i v3), some (iq_i v4), some (iq_i (v5 + 1)), (iq_nv d6), (iq_nv d7)] [] g4 l5 Q)) ∧
            (z6 = (0 : Int) → (iq_P N xs 80 0 [some (iq_r 23)] [] g4 l5 (fun r g7 l8 => ∃ z9, r = some (iq_i z9) ∧ (iq_P N xs 269 0 [some (iq_r 33), some (iq_i v5), some (iq_i z9), none, none] [] g7 l8 (fun r g10 l11 => ∃ z12, r = some (iq_i z12) ∧ (iq_P N xs 270 0 [some (iq_i z12), some (iq_i (v2 - z12))] [] g10 l11 (fun r g13 l14 => ∃ z15, r = some (iq_i z15) ∧ ((-2147483648 ≤ z15 ∧ z15 ≤ 2147483647 ∧ -2147483648 ≤ v4 ∧ v4 ≤ 2147483647) ∧
                    (v4 ≤ z15 → (iq_P N xs 271 18 [some (iq_r 33), some (iq_r 23), some (iq_i v2), some (iq_i v3), some (iq_i v4), some (iq_i (v5 + 1)), some (iq_i z12), some (iq_i z15)] [] g13 l14 Q)) ∧
                    (z15 < v4 → (iq_P N xs 271 18 [some (iq_r 33), some (iq_r 23), some (iq_i v2), some (iq_i v5), some (iq_i z15), some (iq_i (v5 + 1)), some (iq_i z12), some (iq_i z15)] [] g13 l14 Q))))))))))))))))))) :
    iq_P N xs 271 18 [some (iq_r 33), some (iq_r 23), some (iq_i v2), some (iq_i v3), some (iq_i v4), some (iq_i v5), d6, d7] [] g l Q := iq_w_ok (cuts := [18]) 33 18 _ _ _ _ H

-- ScaleForge.ask()I at 0
set_option maxRecDepth 20000 in
theorem B272_0 {N : Nat} {xs : Nat → Int32} {Q : iq_T} (g : iq_I) (l : iq_J) (H : iq_P N xs 263 0 [some (iq_r 33), some (iq_r 23), none] [] g l (fun r g1 l2 => r = none ∧ (iq_P N xs 271 0 [some (iq_r 33), some (iq_r 23), none, none, none, none, none, none] [] g1 l2 (fun r g3 l4 => ∃ z5, r = some (iq_i z5) ∧ (iq_P N xs 167 0 [some (iq_r 0), some (iq_i z5)] [] g3 l4 (fun r g6 l7 => ∃ z8, r = some (iq_i z8) ∧ (Q (some (iq_i z8)) g6 l7))))))) :
    iq_P N xs 272 0 [some (iq_r 0)] [] g l Q := iq_w_ok (cuts := []) 13 0 _ _ _ _ H

-- ScaleForgeModel.ask()I at 0
set_option maxRecDepth 20000 in
theorem B273_77 {N : Nat} {xs : Nat → Int32} {Q : iq_T} (g : iq_I) (l : iq_J) (H : iq_P N xs 265 0 [some (iq_r 77), none, none, none, none, none] [] g l (fun r g1 l2 => ∃ z3, r = some (iq_i z3) ∧ (iq_P N xs 273 12 [some (iq_r 77), some (iq_i z3), some (iq_i (-1)), some (iq_i 0), some (iq_i 0), none, none] [] g1 l2 Q))) :
    iq_P N xs 273 0 [some (iq_r 77), none, none, none, none, none, none] [] g l Q := iq_w_ok (cuts := [12, 47]) 9 0 _ _ _ _ H

-- ScaleForgeModel.ask()I at 12
set_option maxRecDepth 20000 in
theorem B273_p12_77 {N : Nat} {xs : Nat → Int32} {Q : iq_T} (v1 : Int) (v2 : Int) (v3 : Int) (v4 : Int) (d5 : Option iq_V) (d6 : Option iq_V) (g : iq_I) (l : iq_J) (H : (-2147483648 ≤ v4 ∧ v4 ≤ 2147483647 ∧ -2147483648 ≤ (g 78 1) ∧ (g 78 1) ≤ 2147483647) ∧
    ((g 78 1) ≤ v4 → (iq_P N xs 159 0 [some (iq_r 77), some (iq_i v2)] [] g l (fun r g1 l2 => ∃ z3, r = some (iq_i z3) ∧ (Q (some (iq_i z3)) g1 l2)))) ∧
    (v4 < (g 78 1) → ((-2147483648 ≤ v1 ∧ v1 ≤ 2147483647) ∧
      (v1 ≤ (1 : Int) → (iq_P N xs 159 0 [some (iq_r 77), some (iq_i v2)] [] g l (fun r g4 l5 => ∃ z6, r = some (iq_i z6) ∧ (Q (some (iq_i z6)) g4 l5)))) ∧
      ((1 : Int) < v1 → (iq_P N xs 143 0 [some (iq_r 77), some (iq_i v4)] [] g l (fun r g7 l8 => ∃ z9, r = some (iq_i z9) ∧ ((-2147483648 ≤ z9 ∧ z9 ≤ 2147483647) ∧
          (¬ z9 = (1 : Int) → (iq_P N xs 273 47 [some (iq_r 77), some (iq_i v1), some (iq_i v2), some (iq_i v3), some (iq_i v4), some (iq_i 0), some (iq_i 0)] [] g7 l8 Q)) ∧
          (z9 = (1 : Int) → (iq_P N xs 273 12 [some (iq_r 77), some (iq_i v1), some (iq_i v2), some (iq_i v3), some (iq_i (v4 + 1)), (iq_nv d5), (iq_nv d6)] [] g7 l8 Q))))))))) :
    iq_P N xs 273 12 [some (iq_r 77), some (iq_i v1), some (iq_i v2), some (iq_i v3), some (iq_i v4), d5, d6] [] g l Q := iq_w_ok (cuts := [12, 47]) 18 12 _ _ _ _ H

-- ScaleForgeModel.ask()I at 47
set_option maxRecDepth 20000 in
theorem B273_p47_77 {N : Nat} {xs : Nat → Int32} {Q : iq_T} (v1 : Int) (v2 : Int) (v3 : Int) (v4 : Int) (v5 : Int) (v6 : Int) (g : iq_I) (l : iq_J) (H : (-2147483648 ≤ v6 ∧ v6 ≤ 2147483647 ∧ -2147483648 ≤ (g 78 1) ∧ (g 78 1) ≤ 2147483647) ∧
    ((g 78 1) ≤ v6 → (iq_P N xs 270 0 [some (iq_i v5), some (iq_i (v1 - v5))] [] g l (fun r g1 l2 => ∃ z3, r = some (iq_i z3) ∧ ((-2147483648 ≤ v2 ∧ v2 ≤ 2147483647) ∧
        (v2 = (-1 : Int) → (iq_P N xs 273 12 [some (iq_r 77), some (iq_i v1), some (iq_i v4), some (iq_i z3), some (iq_i (v4 + 1)), some (iq_i v5), some (iq_i z3)] [] g1 l2 Q)) ∧
        (¬ v2 = (-1 : Int) → ((-2147483648 ≤ z3 ∧ z3 ≤ 2147483647 ∧ -2147483648 ≤ v3 ∧ v3 ≤ 2147483647) ∧
          (z3 < v3 → (iq_P N xs 273 12 [some (iq_r 77), some (iq_i v1), some (iq_i v4), some (iq_i z3), some (iq_i (v4 + 1)), some (iq_i v5), some (iq_i z3)] [] g1 l2 Q)) ∧
          (v3 ≤ z3 → (iq_P N xs 273 12 [some (iq_r 77), some (iq_i v1), some (iq_i v2), some (iq_i v3), some (iq_i (v4 + 1)), some (iq_i v5), some (iq_i z3)] [] g1 l2 Q)))))))) ∧
    (v6 < (g 78 1) → ((0 ≤ ((60 * v6) + v4) ∧ ((60 * v6) + v4) < 3600) ∧ ((-2147483648 ≤ (g 96 ((60 * v6) + v4)) ∧ (g 96 ((60 * v6) + v4)) ≤ 2147483647) ∧
      ((g 96 ((60 * v6) + v4)) = (0 : Int) → (iq_P N xs 273 47 [some (iq_r 77), some (iq_i v1), some (iq_i v2), some (iq_i v3), some (iq_i v4), some (iq_i (v5 + 0)), some (iq_i (v6 + 1))] [] g l Q)) ∧
      (¬ (g 96 ((60 * v6) + v4)) = (0 : Int) → (iq_P N xs 273 47 [some (iq_r 77), some (iq_i v1), some (iq_i v2), some (iq_i v3), some (iq_i v4), some (iq_i (v5 + 1)), some (iq_i (v6 + 1))] [] g l Q)))))) :
    iq_P N xs 273 47 [some (iq_r 77), some (iq_i v1), some (iq_i v2), some (iq_i v3), some (iq_i v4), some (iq_i v5), some (iq_i v6)] [] g l Q := iq_w_ok (cuts := [12, 47]) 24 47 _ _ _ _ H
